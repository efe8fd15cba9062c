/-! ends and calls -/
theorem NW_warm {s U : State} (hW : s.WarmedH U.vm) (h : ∀ w ∈ NW, va_Nw w s) : ∀ w ∈ NW, va_Nw w U := by
  intro w hw
  have h1 := h w hw
  have h2 := (List.mem_filter.mp hw).2
  cases w <;> first | exact absurd h2 Bool.false_ne_true | exact va_Nw.warmF hW h1 | exact va_Nw.warmM hW h1 | exact va_Nw.warmD hW h1 | exact va_Nw.warmC hW h1
theorem NW_same {s U : State} (hv : s.vm = U.vm) (h : ∀ w ∈ NW, va_Nw w s) : ∀ w ∈ NW, va_Nw w U := by
  intro w hw
  have h1 := h w hw
  have h2 := (List.mem_filter.mp hw).2
  cases w <;> first | exact absurd h2 Bool.false_ne_true | exact va_Nw.same rfl hv h1
/-- what a callee's start says of the state -/
def pre_ (D : va_G) (cy : Nat → ClassId) (sz : Nat) (L : List Nat) (h : hp) : State → Prop := fun U => U.heap.size = sz ∧ rp D cy (fun _ => True) L h U.heap ∧ va_K D vwCl (tys cy) U ∧ (∀ w ∈ NW, va_Nw w U) ∧ stz D (va_A (va_pl L (cel cy h)) sz) U U.heap ∧ srs D U
theorem pre_blind {D : va_G} {cy : Nat → ClassId} {sz : Nat} {L : List Nat} {h : hp} {av : List Value} : FrameBlind (va_Pc av (pre_ D cy sz L h)) := by
  intro a U g mk q
  obtain ⟨q0, q1, q2, q3, q4, q5, q6⟩ := q
  exact ⟨q0, q1, q2, va_K.moved (u := U) (U := U.calling g mk a) (Vm.Alike.refl U.vm) q3, NW_same (s := U) (U := U.calling g mk a) rfl q4, stz.moved (u := U) (U := U.calling g mk a) (Vm.Alike.refl U.vm) q5, srs.same (u := U) (U := U.calling g mk a) rfl (Vm.Alike.refl U.vm) q6⟩
theorem sub_A {D : va_G} {cy : Nat → ClassId} {A : Nat → Prop} {L : List Nat} {h : hp} {H H0 : Heap} {locs : List Loc} (r1 : rp D cy A L h H) (r2 : va_S A H0 H locs) (r3 : ∀ q, H0.size ≤ q → A q) : ∀ q, va_A (va_pl L (cel cy h)) H.size q → A q := by
  intro q hq
  rcases hq with ⟨k, e, hk⟩ | hq
  · exact r1.2.1.2 k (q, e) hk
  · exact r3 q (Nat.le_trans r2.1 hq)
theorem pre_of {l : Launch} {D : va_G} {cy : Nat → ClassId} {μ : mth} {d : Nat} {p : Program} {R : Room} {s : State} {m : MethodId} {args : Array Value} {meth : Method} {c : Code} {A : Nat → Prop} {L : List Nat} {h : hp} {H : Heap} {locs : List Loc} (F : fr l D cy μ d p R s m args meth c) (r1 : rp D cy A L h H) (r2 : va_S A s.heap H locs) (r3 : ∀ q, s.heap.size ≤ q → A q) (r4 : stz D A s s.heap) : ∀ U : State, U.heap = H → s.WarmedH U.vm → pre_ D cy H.size L h U := by
  intro U hU hW
  have hs := sub_A r1 r2 r3
  refine ⟨by rw [hU], ?_, va_K.moved hW.alike F.2.2.2.2.2.2.1, NW_warm hW F.2.2.2.2.2.2.2.2.2.2.2.2.1, ?_, srs.warm hW F.2.2.2.2.2.2.2.2.2.2.2.2.2.2⟩
  · rw [hU]
    exact ⟨r1.1, r1.2.1.weaken (fun _ _ _ _ => trivial), r1.2.2⟩
  · rw [hU]
    exact stz.moved hW.alike (stz.narrow (stz.kept r4 r2.2.1) hs)
section CR
variable {l : Launch} {D : va_G} {cy : Nat → ClassId} {μ : mth} {d rc rs : Nat} {P : Option Value → hp → Prop} {X : String → hp → Prop} {pc : Nat} {lv : List (Nat × Value)} {st : List Value} {h : hp}
theorem a_iret {v : Int32} {ty : FieldType} (hdg : decode μ.2.1 pc = .ok (.ireturn, 1)) (hr : μ.2.2.2 = some ty) (hn : narrow ty (.int v) = .int v) (hP : P (some (.int v)) h) : AW l D cy μ d rc rs P X pc lv [.int v] h := by
  intro p e R s m args below meth c L A H locs cells slots mc ms ls F r1 r2 r3 r4 r5 r6 r7 r8 hl
  refine W.widen (k := mc) (n := ms) (by omega) (by omega) (vx_ret ?_)
  exact W.zret F.1 F.2.1 (F.2.2.1.trans hr) hn (fun t ht hW => ⟨⟨_, h, rfl, hP, ⟨L, by rw [ht]; exact r1⟩, va_K.moved hW.alike F.2.2.2.2.2.2.1⟩, r2.F ht⟩) r2.2.2 hdg F.2.2.2.2.2.2.2.1
theorem a_lret {v : Int64} (hdg : decode μ.2.1 pc = .ok (.lreturn, 1)) (hr : μ.2.2.2 = some .long) (hP : P (some (.long v)) h) : AW l D cy μ d rc rs P X pc lv [.long v] h := by
  intro p e R s m args below meth c L A H locs cells slots mc ms ls F r1 r2 r3 r4 r5 r6 r7 r8 hl
  refine W.widen (k := mc) (n := ms) (by omega) (by omega) (vx_ret ?_)
  exact W.lret F.1 F.2.1 (F.2.2.1.trans hr) (fun t ht hW => ⟨⟨_, h, rfl, hP, ⟨L, by rw [ht]; exact r1⟩, va_K.moved hW.alike F.2.2.2.2.2.2.1⟩, r2.F ht⟩) r2.2.2 hdg F.2.2.2.2.2.2.2.1
theorem a_vret (hdg : decode μ.2.1 pc = .ok (.return_, 1)) (hr : μ.2.2.2 = none) (hP : P none h) : AW l D cy μ d rc rs P X pc lv [] h := by
  intro p e R s m args below meth c L A H locs cells slots mc ms ls F r1 r2 r3 r4 r5 r6 r7 r8 hl
  refine W.widen (k := mc) (n := ms) (by omega) (by omega) (vx_ret ?_)
  exact W.vret F.1 F.2.1 (F.2.2.1.trans hr) (fun t ht hW => ⟨⟨_, h, rfl, hP, ⟨L, by rw [ht]; exact r1⟩, va_K.moved hW.alike F.2.2.2.2.2.2.1⟩, r2.F ht⟩) r2.2.2 hdg F.2.2.2.2.2.2.2.1
/-- behind a call -/
theorem run_on {rest st0 : List Value} {mc' ms' rc' rs' : Nat} (hrc : rc' + mc' ≤ rc) (hrs : rs' + ms' ≤ rs)
    {p : Program} {e : Env} {R : Room} {s : State} {m : MethodId} {args : Array Value} {below : List Frame} {meth : Method} {c : Code} {L : List Nat} {A : Nat → Prop} {H : Heap} {locs : List Loc} {cells slots mc ms : Nat} {ls : Array Slot} {a : Array Value}
    (F : fr l D cy μ d p R s m args meth c) (r1 : rp D cy A L h H) (r2 : va_S A s.heap H locs) (r3 : ∀ q, s.heap.size ≤ q → A q) (r4 : stz D A s s.heap) (r5 : cells + rc ≤ mc) (r6 : slots + rs ≤ ms) (r7 : mc ≤ R.cells) (r8 : ms ≤ R.slots) (hl : lv_has ls μ.2.2.1 lv)
    (hr : vx_Run p l e R s m args below meth c H locs cells slots mc' ms' (F0 m pc ls st0) rest (qc D cy (fun v h' => AW l D cy μ d rc' rs' P X (pc + 3) lv (v.toList ++ rest) h') (va_A (va_pl L (cel cy h)) H.size) a) (xc D cy X (va_A (va_pl L (cel cy h)) H.size)) (va_A (va_pl L (cel cy h)) H.size)) :
    W p l e R s m args below meth c H locs cells slots (vx_MQ below (qc D cy P A) (xc D cy X A) args s mc ms A) (F0 m pc ls st0) := by
  have hs := sub_A r1 r2 r3
  intro T hT XX
  rcases hr T hT XX with ⟨v, st₀, t, T', L', h0, X', hL, e1, e2, ⟨⟨v', h', hv, hp, ⟨L2, r1'⟩, hk⟩, hF⟩, stp⟩ | ⟨q, st₀, t, T', L', E, ce, h0, X', hL, e1, e2, ⟨⟨h', hp, ⟨L2, r1'⟩, hk⟩, hF⟩, hce, hcv, hcl, stp⟩
  · cases hv
    obtain ⟨k1, k2, k3⟩ := vx_keep h0 e1 r2 (fun q _ z => hs q z) hs hL hF
    have r9 : rp D cy A L2 h' T'.heap := by
      rw [e1]
      exact ⟨r1'.1, r1'.2.1.weaken (fun _ q _ z => hs q.1 z), r1'.2.2⟩
    obtain ⟨t2, a1, b1⟩ := hp p e R s m args below meth c L2 A T'.heap (locs ++ L') (cells + mc') (slots + ms') mc ms ls F r9 k3 r3 r4 (by omega) (by omega) r7 r8 hl T' rfl X'
    exact ⟨t2, stp t2 a1, b1⟩
  · obtain ⟨k1, k2, k3⟩ := vx_keep h0 e1 r2 (fun q _ z => hs q z) hs hL hF
    have r9 : rp D cy A L2 h' T'.heap := by
      rw [e1]
      exact ⟨r1'.1, r1'.2.1.weaken (fun _ q _ z => hs q.1 z), r1'.2.2⟩
    obtain ⟨t2, a1, b1⟩ := (vx_out (E := E) (ce := ce) (q := q) (Qc := qc D cy P A) (XC := xc D cy X A) (mc := mc) (ms := ms) (free := A) (fun x hx => (F.2.2.2.2.2.2.2.2.1 x hx).elim) F.2.2.2.2.2.2.2.1 (by rw [e1]; exact hce) hcv hcl (fun t9 ht9 hal => ⟨⟨h', hp, ⟨L2, by rw [ht9]; exact r9⟩, va_K.moved hal F.2.2.2.2.2.2.1⟩, k3.F ht9⟩) k3.2.2 (by omega) (by omega)) T' rfl X'
    exact ⟨t2, stp.trans a1, b1⟩
/-- the words of a call of an instance method, of a static one -/
def clV (own : String) (index : Nat) (y : mth) (n : Nat) : Prop := Cond.methodLink own index y.1 ∈ TT ∧ Cond.instanceMethod y.1 ∈ TT ∧ Cond.selects y.1.cls y.1 y.1 ∈ TT ∧ Cond.initialized y.1.cls ∈ TT ∧ Cond.code y.1 y.2.1 y.2.2.1 y.2.2.2 ∈ TT ∧ (y.1.cls ≠ "java/lang/invoke/MethodHandle" ∧ y.1.cls ≠ "java/lang/invoke/VarHandle" ∧ (parseMethodDescriptor y.1.desc).map (fun d => d.parameters.length) = some n) ∧ y.2.2.1 ≤ 41
def clS (own : String) (index : Nat) (y : mth) (n : Nat) : Prop := Cond.methodLink own index y.1 ∈ TT ∧ Cond.static y.1 ∈ TT ∧ Cond.initialized y.1.cls ∈ TT ∧ Cond.code y.1 y.2.1 y.2.2.1 y.2.2.2 ∈ TT ∧ (y.1.cls ≠ "java/lang/invoke/MethodHandle" ∧ y.1.cls ≠ "java/lang/invoke/VarHandle" ∧ (parseMethodDescriptor y.1.desc).map (fun d => d.parameters.length) = some n) ∧ y.2.2.1 ≤ 41
theorem good_cons {y : mth} (h : Cond.code y.1 y.2.1 y.2.2.1 y.2.2.2 ∈ TT) : GoodIn TT (.code y.1 y.2.1 y.2.2.1 y.2.2.2 :: TT) := fun w hw => by
  rcases List.mem_cons.mp hw with e | e
  · rw [e]; exact TT_good _ h
  · exact TT_good _ e
theorem a_callV {b ci index n d' mc' ms' rc' rs' : Nat} {As rest : List Value} {y : mth} (hdg : decode μ.2.1 pc = .ok (.invokevirtual index, 3)) (hc : clV μ.1.cls index y n) (hn : As.length = n) (hK : q_K h.1 b = ci) (hci : ci < 13) (hC : (vwCl[ci]?).map (fun q => q.1) = some y.1.cls) (hst : (rest.map fun v => v.category).sum ≤ 8) (hd : d' + 1 ≤ d) (hrc : rc' + mc' ≤ rc) (hrs : rs' + ms' ≤ rs)
    (k : Cal l D cy y d' mc' ms' (.ref b :: As) h (fun v h' => AW l D cy μ d rc' rs' P X (pc + 3) lv (v.toList ++ rest) h') X) : AW l D cy μ d rc rs P X pc lv (As.reverse ++ .ref b :: rest) h := by
  intro p e R s m args below meth c L A H locs cells slots mc ms ls F r1 r2 r3 r4 r5 r6 r7 r8 hl
  obtain ⟨c1, c2, c3, c4, c5, c6, c7⟩ := hc
  obtain ⟨g1, g2, g3, g4, g5, g6, g7, g8, g9, g10, g11, g12, g13, g14⟩ := id F
  refine run_on (h := h) (rest := rest) (mc' := mc') (ms' := ms') (rc' := rc') (rs' := rs') (a := (Value.ref b :: As).toArray) hrc hrs F r1 r2 r3 r4 r5 r6 r7 r8 hl ?_
  obtain ⟨q0, hq⟩ := rp_in r1 (a := b) (by rw [hK]; omega)
  rw [cel_o (h := h) hK hci] at hq
  have hq1 : ∃ q : vw_C, vwCl[ci]? = some q ∧ q.1 = y.1.cls := by
    cases hv : vwCl[ci]? with
    | none => rw [hv] at hC; cases hC
    | some q => rw [hv] at hC; exact ⟨q, rfl, Option.some.inj hC⟩
  obtain ⟨q, hv, hqc⟩ := hq1
  have hrecv := va_recv g7 r1.1 hv hq
  rw [hqc] at hrecv
  exact vx_runV (n := n) (C := y.1.cls) (As := As) (rest := rest) (g := F0 m pc ls (As.reverse ++ .ref b :: rest)) ⟨g1, g2, g4, g5, g6⟩ (k H.size L)
    ⟨callB_of n g6 (good_cons c5) rfl rfl rfl (g6 _ c4) (g6 _ c1) c6 ⟨by show d' + 1 ≤ _; omega, by show 8 + (y.2.2.1 + 11) + 60 * d' ≤ _; omega⟩, g6 _ c2, g6 _ c3⟩
    ⟨pre_blind, hrecv, fun U hU hW => ⟨rfl, pre_of F r1 r2 r3 r4 U hU hW⟩⟩ rfl hn hl.1 rfl (lv_room hst) hdg ⟨by omega, by omega⟩
theorem a_callS {index n d' mc' ms' rc' rs' : Nat} {As rest : List Value} {y : mth} (hdg : decode μ.2.1 pc = .ok (.invokestatic index, 3)) (hc : clS μ.1.cls index y n) (hn : As.length = n) (hst : (rest.map fun v => v.category).sum ≤ 8) (hd : d' + 1 ≤ d) (hrc : rc' + mc' ≤ rc) (hrs : rs' + ms' ≤ rs)
    (k : Cal l D cy y d' mc' ms' As h (fun v h' => AW l D cy μ d rc' rs' P X (pc + 3) lv (v.toList ++ rest) h') X) : AW l D cy μ d rc rs P X pc lv (As.reverse ++ rest) h := by
  intro p e R s m args below meth c L A H locs cells slots mc ms ls F r1 r2 r3 r4 r5 r6 r7 r8 hl
  obtain ⟨c1, c2, c4, c5, c6, c7⟩ := hc
  obtain ⟨g1, g2, g3, g4, g5, g6, g7, g8, g9, g10, g11, g12, g13, g14⟩ := id F
  refine run_on (h := h) (rest := rest) (mc' := mc') (ms' := ms') (rc' := rc') (rs' := rs') (a := As.toArray) hrc hrs F r1 r2 r3 r4 r5 r6 r7 r8 hl ?_
  exact vx_runS (n := n) (As := As) (rest := rest) (g := F0 m pc ls (As.reverse ++ rest)) ⟨g1, g2, g4, g5, g6⟩ (k H.size L)
    ⟨callB_of n g6 (good_cons c5) rfl rfl rfl (g6 _ c4) (g6 _ c1) c6 ⟨by show d' + 1 ≤ _; omega, by show 8 + (y.2.2.1 + 11) + 60 * d' ≤ _; omega⟩, g6 _ c2⟩
    ⟨pre_blind, fun U hU hW => ⟨rfl, pre_of F r1 r2 r3 r4 U hU hW⟩⟩ rfl hn hl.1 rfl (lv_room hst) hdg ⟨by omega, by omega⟩
end CR
