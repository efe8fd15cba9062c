/-! methods with an exception table (by gen_h.py, out of 04 to 07) -/
def frH (hh : List (Nat × Nat × Nat × Nat)) (l : Launch) (D : va_G) (cy : Nat → ClassId) (μ : mth) (d : Nat) (p : Program) (R : Room) (s : State) (m : MethodId) (args : Array Value) (meth : Method) (c : Code) : Prop :=
  p.tables.exec = Jvm.exec ∧ c.code = μ.2.1 ∧ meth.sig.returnType = μ.2.2.2 ∧ c.maxLocals = μ.2.2.1 ∧ s.vm.findClass μ.1.cls = some m.cls ∧ (∀ w ∈ TT, w.before args s = true) ∧ va_K D vwCl (tys cy) s ∧ meth.locks = false ∧ c.exceptionTable.toList = tableOf hh ∧ meth.name = μ.1.name ∧ d ≤ R.frames ∧ 60 * d ≤ R.locals ∧ (∀ w ∈ NW, va_Nw w s) ∧ l.stackTraces = false ∧ srs D s
def AH (hh : List (Nat × Nat × Nat × Nat)) (l : Launch) (D : va_G) (cy : Nat → ClassId) (μ : mth) (d rc rs : Nat) (P : Option Value → hp → Prop) (X : String → hp → Prop) (pc : Nat) (lv : List (Nat × Value)) (st : List Value) (h : hp) : Prop :=
  ∀ (p : Program) (e : Env) (R : Room) (s : State) (m : MethodId) (args : Array Value) (below : List Frame) (meth : Method) (c : Code) (L : List Nat) (A : Nat → Prop) (H : Heap) (locs : List Loc) (cells slots mc ms : Nat) (ls : Array Slot),
    frH hh l D cy μ d p R s m args meth c → rp D cy A L h H → va_S A s.heap H locs → (∀ q, s.heap.size ≤ q → A q) → stz D A s s.heap → cells + rc ≤ mc → slots + rs ≤ ms → mc ≤ R.cells → ms ≤ R.slots → lv_has ls μ.2.2.1 lv →
    W p l e R s m args below meth c H locs cells slots (vx_MQ below (qc D cy P A) (xc D cy X A) args s mc ms A) (F0 m pc ls st)
def CalH (hh : List (Nat × Nat × Nat × Nat)) (l : Launch) (D : va_G) (cy : Nat → ClassId) (μ : mth) (d mc ms : Nat) (av : List Value) (h : hp) (P : Option Value → hp → Prop) (X : String → hp → Prop) : Prop :=
  ∀ (sz : Nat) (L : List Nat), vx_Met l μ.1 (.codeWith μ.1 μ.2.1 μ.2.2.1 μ.2.2.2 hh :: TT) { frames := d, cells := mc, slots := ms, locals := 60 * d }
    (va_Pc av (fun U => U.heap.size = sz ∧ rp D cy (fun _ => True) L h U.heap ∧ va_K D vwCl (tys cy) U ∧ (∀ w ∈ NW, va_Nw w U) ∧ stz D (va_A (va_pl L (cel cy h)) sz) U U.heap ∧ srs D U))
    (qc D cy P (va_A (va_pl L (cel cy h)) sz)) (xc D cy X (va_A (va_pl L (cel cy h)) sz)) mc ms (va_A (va_pl L (cel cy h)) sz)
theorem preH_of {hh : List (Nat × Nat × Nat × Nat)} {l : Launch} {D : va_G} {cy : Nat → ClassId} {μ : mth} {d : Nat} {p : Program} {R : Room} {s : State} {m : MethodId} {args : Array Value} {meth : Method} {c : Code} {A : Nat → Prop} {L : List Nat} {h : hp} {H : Heap} {locs : List Loc} (F : frH hh l D cy μ d p R s m args meth c) (r1 : rp D cy A L h H) (r2 : va_S A s.heap H locs) (r3 : ∀ q, s.heap.size ≤ q → A q) (r4 : stz D A s s.heap) : ∀ U : State, U.heap = H → s.WarmedH U.vm → pre_ D cy H.size L h U := by
  intro U hU hW
  have hs := sub_A r1 r2 r3
  refine ⟨by rw [hU], ?_, va_K.moved hW.alike F.2.2.2.2.2.2.1, NW_warm hW F.2.2.2.2.2.2.2.2.2.2.2.2.1, ?_, srs.warm hW F.2.2.2.2.2.2.2.2.2.2.2.2.2.2⟩
  · rw [hU]
    exact ⟨r1.1, r1.2.1.weaken (fun _ _ _ _ => trivial), r1.2.2⟩
  · rw [hU]
    exact stz.moved hW.alike (stz.narrow (stz.kept r4 r2.2.1) hs)
section HW
variable {hh : List (Nat × Nat × Nat × Nat)} {l : Launch} {D : va_G} {cy : Nat → ClassId} {μ : mth} {d rc rs : Nat} {P : Option Value → hp → Prop} {X : String → hp → Prop} {pc : Nat} {lv : List (Nat × Value)} {st : List Value} {h : hp}
theorem h_aload_n {x : Nat} {q : Fin 4} (k0 i : Nat) (hdg : decode μ.2.1 pc = .ok (.aload_n q, 1)) (hi : (q : Nat) = i) (hk : lv[k0]? = some (i, .ref x)) (k : AH hh l D cy μ d rc rs P X (pc + 1) lv (.ref x :: st) h) : AH hh l D cy μ d rc rs P X pc lv st h := by
  intro p e R s m args below meth c L A H locs cells slots mc ms ls F r1 r2 r3 r4 r5 r6 r7 r8 hl
  exact lv_aload_n F.1 F.2.1 hdg hi (lv_at hl k0 hk) (k p e R s m args below meth c L A H locs cells slots mc ms ls F r1 r2 r3 r4 r5 r6 r7 r8 hl)
theorem h_aload {x : Nat} {i : Nat} (k0 : Nat) (hdg : decode μ.2.1 pc = .ok (.aload i, 2)) (hk : lv[k0]? = some (i, .ref x)) (k : AH hh l D cy μ d rc rs P X (pc + 2) lv (.ref x :: st) h) : AH hh l D cy μ d rc rs P X pc lv st h := by
  intro p e R s m args below meth c L A H locs cells slots mc ms ls F r1 r2 r3 r4 r5 r6 r7 r8 hl
  exact lv_aload F.1 F.2.1 hdg (lv_at hl k0 hk) (k p e R s m args below meth c L A H locs cells slots mc ms ls F r1 r2 r3 r4 r5 r6 r7 r8 hl)
theorem h_iload_n {x : Int32} {q : Fin 4} (k0 i : Nat) (hdg : decode μ.2.1 pc = .ok (.iload_n q, 1)) (hi : (q : Nat) = i) (hk : lv[k0]? = some (i, .int x)) (k : AH hh l D cy μ d rc rs P X (pc + 1) lv (.int x :: st) h) : AH hh l D cy μ d rc rs P X pc lv st h := by
  intro p e R s m args below meth c L A H locs cells slots mc ms ls F r1 r2 r3 r4 r5 r6 r7 r8 hl
  exact lv_iload_n F.1 F.2.1 hdg hi (lv_at hl k0 hk) (k p e R s m args below meth c L A H locs cells slots mc ms ls F r1 r2 r3 r4 r5 r6 r7 r8 hl)
theorem h_iload {x : Int32} {i : Nat} (k0 : Nat) (hdg : decode μ.2.1 pc = .ok (.iload i, 2)) (hk : lv[k0]? = some (i, .int x)) (k : AH hh l D cy μ d rc rs P X (pc + 2) lv (.int x :: st) h) : AH hh l D cy μ d rc rs P X pc lv st h := by
  intro p e R s m args below meth c L A H locs cells slots mc ms ls F r1 r2 r3 r4 r5 r6 r7 r8 hl
  exact lv_iload F.1 F.2.1 hdg (lv_at hl k0 hk) (k p e R s m args below meth c L A H locs cells slots mc ms ls F r1 r2 r3 r4 r5 r6 r7 r8 hl)
theorem h_iconst {n : Int} {v : Int32} (hdg : decode μ.2.1 pc = .ok (.iconst n, 1)) (hv : Int32.ofInt n = v) (k : AH hh l D cy μ d rc rs P X (pc + 1) lv (.int v :: st) h) : AH hh l D cy μ d rc rs P X pc lv st h := by
  intro p e R s m args below meth c L A H locs cells slots mc ms ls F r1 r2 r3 r4 r5 r6 r7 r8 hl
  exact lv_iconst F.1 F.2.1 hdg hv (k p e R s m args below meth c L A H locs cells slots mc ms ls F r1 r2 r3 r4 r5 r6 r7 r8 hl)
theorem h_i2l {x : Int32} (hdg : decode μ.2.1 pc = .ok (.i2l, 1))  (k : AH hh l D cy μ d rc rs P X (pc + 1) lv (.long x.toInt64 :: st) h) : AH hh l D cy μ d rc rs P X pc lv (.int x :: st) h := by
  intro p e R s m args below meth c L A H locs cells slots mc ms ls F r1 r2 r3 r4 r5 r6 r7 r8 hl
  exact lv_i2l F.1 F.2.1 hdg rfl (k p e R s m args below meth c L A H locs cells slots mc ms ls F r1 r2 r3 r4 r5 r6 r7 r8 hl)
theorem h_lconst {n : Fin 2} {v : Int64} (hdg : decode μ.2.1 pc = .ok (.lconst n, 1)) (hv : Int64.ofNat (n : Nat) = v) (k : AH hh l D cy μ d rc rs P X (pc + 1) lv (.long v :: st) h) : AH hh l D cy μ d rc rs P X pc lv st h := by
  intro p e R s m args below meth c L A H locs cells slots mc ms ls F r1 r2 r3 r4 r5 r6 r7 r8 hl
  exact lv_lconst F.1 F.2.1 hdg hv (k p e R s m args below meth c L A H locs cells slots mc ms ls F r1 r2 r3 r4 r5 r6 r7 r8 hl)
theorem h_goto {off : Int} (tgt : Nat) (hdg : decode μ.2.1 pc = .ok (.goto off, 3)) (ht : (pc : Int) + off = (tgt : Int)) (k : AH hh l D cy μ d rc rs P X tgt lv st h) : AH hh l D cy μ d rc rs P X pc lv st h := by
  intro p e R s m args below meth c L A H locs cells slots mc ms ls F r1 r2 r3 r4 r5 r6 r7 r8 hl
  exact lv_goto F.1 F.2.1 hdg ht (k p e R s m args below meth c L A H locs cells slots mc ms ls F r1 r2 r3 r4 r5 r6 r7 r8 hl)
theorem h_astore_n {x : Nat} {q : Fin 4} {i : Nat} (lv' : List (Nat × Value)) (hdg : decode μ.2.1 pc = .ok (.astore_n q, 1)) (hi : (q : Nat) = i) (hn : i < μ.2.2.1) (hl' : (i, Value.ref x) :: lv.filter (fun q => !(q.1 == i) && !(q.1 + 1 == i && q.2.category == 2)) = lv') (k : AH hh l D cy μ d rc rs P X (pc + 1) lv' st h) : AH hh l D cy μ d rc rs P X pc lv (.ref x :: st) h := by
  intro p e R s m args below meth c L A H locs cells slots mc ms ls F r1 r2 r3 r4 r5 r6 r7 r8 hl
  exact lv_astore_n F.1 F.2.1 hdg hi hl hn hl' (fun ls' hl' => k p e R s m args below meth c L A H locs cells slots mc ms ls' F r1 r2 r3 r4 r5 r6 r7 r8 hl')
theorem h_astore {x : Nat} {i : Nat} (lv' : List (Nat × Value)) (hdg : decode μ.2.1 pc = .ok (.astore i, 2)) (hn : i < μ.2.2.1) (hl' : (i, Value.ref x) :: lv.filter (fun q => !(q.1 == i) && !(q.1 + 1 == i && q.2.category == 2)) = lv') (k : AH hh l D cy μ d rc rs P X (pc + 2) lv' st h) : AH hh l D cy μ d rc rs P X pc lv (.ref x :: st) h := by
  intro p e R s m args below meth c L A H locs cells slots mc ms ls F r1 r2 r3 r4 r5 r6 r7 r8 hl
  exact lv_astore F.1 F.2.1 hdg hl hn hl' (fun ls' hl' => k p e R s m args below meth c L A H locs cells slots mc ms ls' F r1 r2 r3 r4 r5 r6 r7 r8 hl')
theorem h_if_eq {x : Int32} {off : Int} (tgt : Nat) (hdg : decode μ.2.1 pc = .ok (.ifCond .eq off, 3)) (ht : (pc : Int) + off = (tgt : Int)) (kt : x = 0 → AH hh l D cy μ d rc rs P X tgt lv st h) (kf : ¬ x = 0 → AH hh l D cy μ d rc rs P X (pc + 3) lv st h) : AH hh l D cy μ d rc rs P X pc lv (.int x :: st) h := by
  intro p e R s m args below meth c L A H locs cells slots mc ms ls F r1 r2 r3 r4 r5 r6 r7 r8 hl
  exact lv_if_eq F.1 F.2.1 hdg ht (fun z => kt z p e R s m args below meth c L A H locs cells slots mc ms ls F r1 r2 r3 r4 r5 r6 r7 r8 hl) (fun z => kf z p e R s m args below meth c L A H locs cells slots mc ms ls F r1 r2 r3 r4 r5 r6 r7 r8 hl)
theorem h_iret {v : Int32} {ty : FieldType} (hdg : decode μ.2.1 pc = .ok (.ireturn, 1)) (hr : μ.2.2.2 = some ty) (hn : narrow ty (.int v) = .int v) (hP : P (some (.int v)) h) : AH hh l D cy μ d rc rs P X pc lv [.int v] h := by
  intro p e R s m args below meth c L A H locs cells slots mc ms ls F r1 r2 r3 r4 r5 r6 r7 r8 hl
  refine W.widen (k := mc) (n := ms) (by omega) (by omega) (vx_ret ?_)
  exact W.zret F.1 F.2.1 (F.2.2.1.trans hr) hn (fun t ht hW => ⟨⟨_, h, rfl, hP, ⟨L, by rw [ht]; exact r1⟩, va_K.moved hW.alike F.2.2.2.2.2.2.1⟩, r2.F ht⟩) r2.2.2 hdg F.2.2.2.2.2.2.2.1
theorem h_last {g : gp} {h : dp} {a : Nat} {i : Int32} {x : Int64} (hdg : decode μ.2.1 pc = .ok (.lastore, 1)) (hK : q_K g a = 14) (hi : vp_in i (q_N g a)) (kk : AH hh l D cy μ d rc rs P X (pc + 1) lv st (g, s_J h a i.toNatClampNeg x)) : AH hh l D cy μ d rc rs P X pc lv (.long x :: .int i :: .ref a :: st) (g, h) := by
  intro p e R s m args below meth c L A H locs cells slots mc ms ls F r1 r2 r3 r4 r5 r6 r7 r8 hl
  obtain ⟨q0, hq⟩ := rp_in r1 (a := a) (by show q_K g a ≠ 99; omega)
  have hq9 := hq
  rw [cel_j (h := (g, h)) hK] at hq
  exact va_last F.1 F.2.1 F.2.2.2.2.2.2.1 r1.1 r1.2.1 r2 q0 1 hq rfl hi hdg (fun H1 locs1 hP hD hS => kk p e R s m args below meth c L A H1 locs1 cells slots mc ms ls F (rp_up r1 (rp_mem r1 (by show q_K g a ≠ 99; omega)) hq9 (cel_J hK) rfl hP hD) hS r3 r4 r5 r6 r7 r8 hl)
def ctc (hh : List (Nat × Nat × Nat × Nat)) (own : String) (pc : Nat) (E : String) (K : Nat → Prop) : Prop := ∃ (pre : List ExceptionTableEntry) (x : ExceptionTableEntry) (suf : List ExceptionTableEntry) (name : String), tableOf hh = pre ++ x :: suf ∧ (∀ z ∈ pre, covers z pc = false ∨ (z.catchType ≠ 0 ∧ ∃ nm : String, Cond.classLink own z.catchType nm ∈ TT ∧ (E, nm) ∈ ncl)) ∧ covers x pc = true ∧ x.catchType ≠ 0 ∧ Cond.classLink own x.catchType name ∈ TT ∧ Cond.castable E name ∈ NW ∧ K x.handlerPc
theorem h_callV {b ci index n d' mc' ms' rc' rs' : Nat} {As rest : List Value} {y : mth} (hdg : decode μ.2.1 pc = .ok (.invokevirtual index, 3)) (hc : clV μ.1.cls index y n) (hn : As.length = n) (hK : q_K h.1 b = ci) (hci : ci < 13) (hC : (vwCl[ci]?).map (fun q => q.1) = some y.1.cls) (hst : (rest.map fun v => v.category).sum ≤ 8) (hd : d' + 1 ≤ d) (hrc : rc' + mc' ≤ rc) (hrs : rs' + ms' ≤ rs)
    (k : Cal l D cy y d' mc' ms' (.ref b :: As) h (fun v h' => AH hh l D cy μ d rc' rs' P X (pc + 3) lv (v.toList ++ rest) h') (fun E h' => ctc hh μ.1.cls pc E (fun hpc => ∀ q : Nat, AH hh l D cy μ d rc' rs' P X hpc lv [.ref q] h'))) : AH hh l D cy μ d rc rs P X pc lv (As.reverse ++ .ref b :: rest) h := by
  intro p e R s m args below meth c L A H locs cells slots mc ms ls F r1 r2 r3 r4 r5 r6 r7 r8 hl
  obtain ⟨c1, c2, c3, c4, c5, c6, c7⟩ := hc
  obtain ⟨g1, g2, g3, g4, g5, g6, g7, g8, g9, g10, g11, g12, g13, g14, g15⟩ := id F
  obtain ⟨q0, hq⟩ := rp_in r1 (a := b) (by rw [hK]; omega)
  rw [cel_o (h := h) hK hci] at hq
  have hq1 : ∃ q : vw_C, vwCl[ci]? = some q ∧ q.1 = y.1.cls := by
    cases hv : vwCl[ci]? with
    | none => rw [hv] at hC; cases hC
    | some q => rw [hv] at hC; exact ⟨q, rfl, Option.some.inj hC⟩
  obtain ⟨q, hv, hqc⟩ := hq1
  have hrecv := va_recv g7 r1.1 hv hq
  rw [hqc] at hrecv
  have hr := vx_runV (R := R) (n := n) (C := y.1.cls) (As := As) (rest := rest) (locs := locs) (cells := cells) (slots := slots) (meth := meth) (below := below) (e := e) (g := F0 m pc ls (As.reverse ++ .ref b :: rest)) ⟨g1, g2, g4, g5, g6⟩ (k H.size L)
    ⟨callB_of n g6 (good_cons c5) rfl rfl rfl (g6 _ c4) (g6 _ c1) c6 ⟨by show d' + 1 ≤ _; omega, by show 8 + (y.2.2.1 + 11) + 60 * d' ≤ _; omega⟩, g6 _ c2, g6 _ c3⟩
    ⟨pre_blind, hrecv, fun U hU hW => ⟨rfl, preH_of F r1 r2 r3 r4 U hU hW⟩⟩ rfl hn hl.1 rfl (lv_room hst) hdg ⟨by omega, by omega⟩
  have hs := sub_A r1 r2 r3
  intro T hT XX
  rcases hr T hT XX with ⟨v, st₀, t, T', L', h0, X', hL, e1, e2, ⟨⟨v', h', hv, hp, ⟨L2, r1'⟩, hk⟩, hF⟩, stp⟩ | ⟨q, st₀, t, T', L', E, ce, h0, X', hL, e1, e2, ⟨⟨h', hp, ⟨L2, r1'⟩, hk⟩, hF⟩, hce, hcv, hcl, stp⟩
  · cases hv
    obtain ⟨k1, k2, k3⟩ := vx_keep h0 e1 r2 (fun q _ z => hs q z) hs hL hF
    have r9 : rp D cy A L2 h' T'.heap := by
      rw [e1]
      exact ⟨r1'.1, r1'.2.1.weaken (fun _ q _ z => hs q.1 z), r1'.2.2⟩
    obtain ⟨t2, a1, b1⟩ := hp p e R s m args below meth c L2 A T'.heap (locs ++ L') (cells + mc') (slots + ms') mc ms ls F r9 k3 r3 r4 (by omega) (by omega) r7 r8 hl T' rfl X'
    exact ⟨t2, stp t2 a1, b1⟩
  · obtain ⟨k1, k2, k3⟩ := vx_keep h0 e1 r2 (fun q _ z => hs q z) hs hL hF
    have r9 : rp D cy A L2 h' T'.heap := by
      rw [e1]
      exact ⟨r1'.1, r1'.2.1.weaken (fun _ q _ z => hs q.1 z), r1'.2.2⟩
    obtain ⟨pre, x, suf, name, w1, w2, w3, w4, w5, w6, w7⟩ := hp
    have hcast : (Cond.castable E name).before args s = true := va_Nw.use rfl (g13 _ w6)
    obtain ⟨t2, a1, b1⟩ := (vx_catch (E := E) (ce := ce) (q := q) (pc := pc) (ls := ls) (rest := rest) g5 pre x suf (g9.trans w1) (fun z hz => (w2 z hz).imp id (fun ⟨n1, nm, n2, n3⟩ => ⟨n1, nm, g6 _ n2, g15.2.2.2.2.2 (E, nm) n3⟩)) w3 w4 (g6 _ w5) hcast (by rw [e1]; exact hce) hcv hcl
      (w7 q p e R s m args below meth c L2 A T'.heap (locs ++ L') (cells + mc') (slots + ms') mc ms ls F r9 k3 r3 r4 (by omega) (by omega) r7 r8 hl)) T' rfl X'
    exact ⟨t2, stp.trans a1, b1⟩
theorem CalH.of {mc ms : Nat} {av : List Value} (hy : plainName μ.1.cls = true) (hn : (lg_sl av).length ≤ μ.2.2.1) (hl : l.stackTraces = false)
    (k : AH hh l D cy μ d mc ms P X 0 (lv_args 0 av) [] h) : CalH hh l D cy μ d mc ms av h P X := by
  intro sz L
  refine vx_ofWH (cc := μ.2.1) (maxL := μ.2.2.1) (ret := μ.2.2.2) (hh := hh) hy rfl ?_
  intro p e s m args below meth c s₁ B hml hv
  obtain ⟨rfl, hsz, ⟨hP, hD0, hdom⟩, hK, hN, hZ, hZs⟩ := hv
  have hts := atoms_spec (ws := .codeWith μ.1 μ.2.1 μ.2.2.1 μ.2.2.2 hh :: TT) B.pre
  subst hsz
  have hown : s.vm.findClass μ.1.cls = some m.cls := findClass_of_methodNamed B.named
  have hD := hD0.self (sz := s.heap.size)
  have hle := lv_entry av (n := μ.2.2.1) hn
  have hex := vx_table (x := μ.1) B (hts _ List.mem_cons_self)
  rw [lg_entry_eq]
  exact k p e _ s m _ below meth c L _ s.heap [] 0 0 mc ms _ ⟨B.exec, B.bytes, B.returns, hml, hown, fun w h => hts w (List.mem_cons_of_mem _ h), hK, B.notSynchronized, hex, (name_of_methodNamed B.named B.method).1, Nat.le_refl _, Nat.le_refl _, hN, hl, hZs⟩ ⟨hP, hD, hdom⟩ va_S.rf (fun q h => Or.inr h) hZ (by omega) (by omega) (Nat.le_refl _) (Nat.le_refl _) hle
end HW
def clH (hh : List (Nat × Nat × Nat × Nat)) (own : String) (index : Nat) (y : mth) (n : Nat) : Prop := Cond.methodLink own index y.1 ∈ TT ∧ Cond.static y.1 ∈ TT ∧ Cond.initialized y.1.cls ∈ TT ∧ Cond.codeWith y.1 y.2.1 y.2.2.1 y.2.2.2 hh ∈ TT ∧ (y.1.cls ≠ "java/lang/invoke/MethodHandle" ∧ y.1.cls ≠ "java/lang/invoke/VarHandle" ∧ (parseMethodDescriptor y.1.desc).map (fun d => d.parameters.length) = some n) ∧ y.2.2.1 ≤ 41
section HX
variable {l : Launch} {D : va_G} {cy : Nat → ClassId} {μ : mth} {d rc rs : Nat} {P : Option Value → hp → Prop} {X : String → hp → Prop} {pc : Nat} {lv : List (Nat × Value)} {st : List Value} {h : hp}
/-- the law's call of a helper -/
theorem a_callH {hh : List (Nat × Nat × Nat × Nat)} {index n d' mc' ms' rc' rs' : Nat} {As rest : List Value} {y : mth} (hdg : decode μ.2.1 pc = .ok (.invokestatic index, 3)) (hc : clH hh μ.1.cls index y n) (hn : As.length = n) (hst : (rest.map fun v => v.category).sum ≤ 8) (hd : d' + 1 ≤ d) (hrc : rc' + mc' ≤ rc) (hrs : rs' + ms' ≤ rs)
    (k : CalH hh l D cy y d' mc' ms' As h (fun v h' => AW l D cy μ d rc' rs' P X (pc + 3) lv (v.toList ++ rest) h') X) : AW l D cy μ d rc rs P X pc lv (As.reverse ++ rest) h := by
  intro p e R s m args below meth c L A H locs cells slots mc ms ls F r1 r2 r3 r4 r5 r6 r7 r8 hl
  obtain ⟨c1, c2, c4, c5, c6, c7⟩ := hc
  obtain ⟨g1, g2, g3, g4, g5, g6, g7, g8, g9, g10, g11, g12, g13, g14⟩ := id F
  refine run_on (h := h) (rest := rest) (mc' := mc') (ms' := ms') (rc' := rc') (rs' := rs') (a := As.toArray) hrc hrs F r1 r2 r3 r4 r5 r6 r7 r8 hl ?_
  have hT : GoodIn TT (va_wsS μ.1.cls index y.1 (.codeWith y.1 y.2.1 y.2.2.1 y.2.2.2 hh :: TT)) := by
    intro w hw
    refine TT_good w ?_
    unfold va_wsS at hw
    simp only [List.cons_append, List.nil_append, List.mem_cons, List.mem_append] at hw
    rcases hw with rfl | rfl | rfl | rfl | hw <;> assumption
  exact vx_runSX (n := n) (As := As) (rest := rest) (g := F0 m pc ls (As.reverse ++ rest)) ⟨g1, g2, g4, g5, g6⟩ (k H.size L)
    (vx_cwSW n g6 hT rfl rfl rfl c6 ⟨by show d' + 1 ≤ _; omega, by show 8 + (y.2.2.1 + 11) + 60 * d' ≤ _; omega⟩)
    ⟨pre_blind, fun U hU hW => ⟨rfl, pre_of F r1 r2 r3 r4 U hU hW⟩⟩ rfl hn hl.1 rfl (lv_room hst) hdg ⟨by omega, by omega⟩
/-- the law reads its script -/
theorem a_sld {i : Int32} (hdg : decode μ.2.1 pc = .ok (.iaload, 1)) (hi : vp_in i (D.2 102 1)) (kk : AW l D cy μ d rc rs P X (pc + 1) lv (.int (Int32.ofNat (D.2 103 i.toNatClampNeg)) :: st) h) : AW l D cy μ d rc rs P X pc lv (.int i :: .ref (D.2 102 0) :: st) h := by
  intro p e R s m args below meth c L A H locs cells slots mc ms ls F r1 r2 r3 r4 r5 r6 r7 r8 hl
  exact va_ti F.1 F.2.1 r4.2.2.2.2.2 r2 hi rfl hdg (kk p e R s m args below meth c L A H locs cells slots mc ms ls F r1 r2 r3 r4 r5 r6 r7 r8 hl)
theorem a_slen (hdg : decode μ.2.1 pc = .ok (.arraylength, 1)) (kk : AW l D cy μ d rc rs P X (pc + 1) lv (.int (Int32.ofNat (D.2 102 1)) :: st) h) : AW l D cy μ d rc rs P X pc lv (.ref (D.2 102 0) :: st) h := by
  intro p e R s m args below meth c L A H locs cells slots mc ms ls F r1 r2 r3 r4 r5 r6 r7 r8 hl
  exact va_tlen F.1 F.2.1 r4.2.2.2.2.2 r2 rfl hdg (kk p e R s m args below meth c L A H locs cells slots mc ms ls F r1 r2 r3 r4 r5 r6 r7 r8 hl)
end HX
