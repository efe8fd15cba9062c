/-! arraycopy, texts -/
def cpy (own : String) (index : Nat) : Prop := Cond.methodLink own index arraycopyName ∈ TT ∧ Cond.native arraycopyName ∈ TT ∧ Cond.static arraycopyName ∈ TT ∧ Cond.initialized "java/lang/System" ∈ TT
section XR
variable {l : Launch} {D : va_G} {cy : Nat → ClassId} {μ : mth} {d rc rs : Nat} {P : Option Value → hp → Prop} {X : String → hp → Prop} {pc : Nat} {lv : List (Nat × Value)} {st : List Value} {g : gp} {h δ : dp} {ρ : Type} {em : ρ → (Option Value ⊕ String) × dp} {o : Option ρ}
theorem nfw : nativeFrameWords "java/lang/System" "arraycopy" 5 ≤ 30 := by decide +kernel
theorem a_copy {a b index : Nat} {sp dq n : Int32} (hdg : decode μ.2.1 pc = .ok (.invokestatic index, 3)) (hc : cpy μ.1.cls index) (hKa : q_K g a = 13) (hKb : q_K g b = 13) (h1 : ¬ sp < 0) (h2 : ¬ dq < 0) (h3 : ¬ n < 0) (h4 : sp.toNatClampNeg + n.toNatClampNeg ≤ q_N g a) (h5 : dq.toNatClampNeg + n.toNatClampNeg ≤ q_N g b) (hd : 1 ≤ d) (hst : (st.map fun v => v.category).sum ≤ 8) (kk : AW l D cy μ d rc rs P X (pc + 3) lv st (g, s_C h a b sp.toNatClampNeg dq.toNatClampNeg n.toNatClampNeg)) : AW l D cy μ d rc rs P X pc lv (.int n :: .int dq :: .ref b :: .int sp :: .ref a :: st) (g, h) := by
  intro p e R s m args below meth c L A H locs cells slots mc ms ls F r1 r2 r3 r4 r5 r6 r7 r8 hl
  obtain ⟨qa, ha⟩ := rp_in r1 (a := a) (by show q_K g a ≠ 99; omega)
  obtain ⟨qb, hb⟩ := rp_in r1 (a := b) (by show q_K g b ≠ 99; omega)
  have hb9 := hb
  rw [cel_i (h := (g, h)) hKa] at ha
  rw [cel_i (h := (g, h)) hKb] at hb
  obtain ⟨g1, g2, g3, g4, g5, g6, g7, g8, g9, g10, g11, g12, g13⟩ := id F
  have := nfw
  exact va_copyi g1 g2 (g4.trans hl.1.symm) g5 (g6 _ hc.1) (g6 _ hc.2.1) (g6 _ hc.2.2.1) (g6 _ hc.2.2.2) g7 r1.1 r1.2.1 r2 qa qb 0 0 ha hb rfl rfl rfl h1 h2 h3 h4 h5 (fun _ _ => rfl) (by omega) (by omega) hdg
    (fun H1 locs1 hP hD hS => kk p e R s m args below meth c L A H1 locs1 cells slots mc ms ls F (rp_up r1 (rp_mem r1 (by show q_K g b ≠ 99; omega)) hb9 (cel_C hKb) rfl hP hD) hS r3 r4 r5 r6 r7 r8 hl)
theorem w_copy {a b index : Nat} {sp dq n : Int32} (hdg : decode μ.2.1 pc = .ok (.invokestatic index, 3)) (hc : cpy μ.1.cls index) (hKa : q_K g a = 13) (hKb : q_K g b = 13) (hd : 1 ≤ d) (hst : (st.map fun v => v.category).sum ≤ 8) (kk : AWD l D cy μ d rc rs em g (pc + 3) lv st (s_C δ a b sp.toNatClampNeg dq.toNatClampNeg n.toNatClampNeg) o) : AWD l D cy μ d rc rs em g pc lv (.int n :: .int dq :: .ref b :: .int sp :: .ref a :: st) δ (if sp < 0 ∨ dq < 0 ∨ n < 0 ∨ q_N g a < sp.toNatClampNeg + n.toNatClampNeg ∨ q_N g b < dq.toNatClampNeg + n.toNatClampNeg then none else o) := w_gn (fun z r hr P X hP => a_copy hdg hc hKa hKb (fun q => z (Or.inl q)) (fun q => z (Or.inr (Or.inl q))) (fun q => z (Or.inr (Or.inr (Or.inl q)))) (by have := fun q => z (Or.inr (Or.inr (Or.inr (Or.inl q)))); omega) (by have := fun q => z (Or.inr (Or.inr (Or.inr (Or.inr q)))); omega) hd hst (kk r hr P X hP))
theorem a_ldcS {index i : Nat} {tx : String} (hdg : decode μ.2.1 pc = .ok (.ldc index, 2)) (hw : (μ.1.cls, index, tx, i) ∈ srl) (kk : AW l D cy μ d rc rs P X (pc + 2) lv (.ref (D.2 100 i) :: st) (g, h)) : AW l D cy μ d rc rs P X pc lv st (g, h) := by
  intro p e R s m args below meth c L A H locs cells slots mc ms ls F r1 r2 r3 r4 r5 r6 r7 r8 hl
  have hs : srs D s := F.2.2.2.2.2.2.2.2.2.2.2.2.2.2
  have hv : vk_R μ.1.cls index tx (D.2 100 i) s := hs.1 (μ.1.cls, index, tx, i) hw
  clear hs
  exact va_ldcS F.1 F.2.1 F.2.2.2.2.1 hv hdg (kk p e R s m args below meth c L A H locs cells slots mc ms ls F r1 r2 r3 r4 r5 r6 r7 r8 hl)
theorem w_ldcS {index : Nat} (i : Nat) {tx : String} (hdg : decode μ.2.1 pc = .ok (.ldc index, 2)) (hw : (μ.1.cls, index, tx, i) ∈ srl) (kk : AWD l D cy μ d rc rs em g (pc + 2) lv (.ref (D.2 100 i) :: st) δ o) : AWD l D cy μ d rc rs em g pc lv st δ o := fun r hr P X hP => a_ldcS hdg hw (kk r hr P X hP)
theorem w_scod {index i : Nat} (hi : i < 16) (hdg : decode μ.2.1 pc = .ok (.getfield index, 3)) (hw : Cond.fieldLink μ.1.cls index "java/lang/String" "coder" "B" ∈ TT) (kk : AWD l D cy μ d rc rs em g (pc + 3) lv (.int 0 :: st) δ o) : AWD l D cy μ d rc rs em g pc lv (.ref (D.2 100 i) :: st) δ o := by
  intro r hr P X hP p e R s m args below meth c L A H locs cells slots mc ms ls F r1 r2 r3 r4 r5 r6 r7 r8 hl
  exact vk_getf F.1 F.2.1 (r4.2.2.1 i hi).2.1 r2 F.2.2.2.2.1 (F.2.2.2.2.2.1 _ hw) (fun _ h9 => h9) hdg (kk r hr P X hP p e R s m args below meth c L A H locs cells slots mc ms ls F r1 r2 r3 r4 r5 r6 r7 r8 hl)
theorem w_sval {index i : Nat} (hi : i < 16) (hdg : decode μ.2.1 pc = .ok (.getfield index, 3)) (hw : Cond.fieldLink μ.1.cls index "java/lang/String" "value" "[B" ∈ TT) (kk : AWD l D cy μ d rc rs em g (pc + 3) lv (.ref (D.2 101 i) :: st) δ o) : AWD l D cy μ d rc rs em g pc lv (.ref (D.2 100 i) :: st) δ o := by
  intro r hr P X hP p e R s m args below meth c L A H locs cells slots mc ms ls F r1 r2 r3 r4 r5 r6 r7 r8 hl
  exact vk_getf F.1 F.2.1 (r4.2.2.1 i hi).2.2.1 r2 F.2.2.2.2.1 (F.2.2.2.2.2.1 _ hw) (fun _ h9 => h9) hdg (kk r hr P X hP p e R s m args below meth c L A H locs cells slots mc ms ls F r1 r2 r3 r4 r5 r6 r7 r8 hl)
theorem w_scmp {index : Nat} (hdg : decode μ.2.1 pc = .ok (.getstatic index, 3)) (hw : Cond.fieldLink μ.1.cls index "java/lang/String" "COMPACT_STRINGS" "Z" ∈ TT) (kk : AWD l D cy μ d rc rs em g (pc + 3) lv (.int 1 :: st) δ o) : AWD l D cy μ d rc rs em g pc lv st δ o := by
  intro r hr P X hP p e R s m args below meth c L A H locs cells slots mc ms ls F r1 r2 r3 r4 r5 r6 r7 r8 hl
  exact va_gets F.1 F.2.1 r4.2.2.2.1 r2 F.2.2.2.2.1 (F.2.2.2.2.2.1 _ hw) (fun _ h9 => h9) hdg (kk r hr P X hP p e R s m args below meth c L A H locs cells slots mc ms ls F r1 r2 r3 r4 r5 r6 r7 r8 hl)
theorem w_sfmt {index : Nat} (hdg : decode μ.2.1 pc = .ok (.getstatic index, 3)) (hw : Cond.fieldLink μ.1.cls index "jdk/internal/util/Preconditions" "SIOOBE_FORMATTER" "Ljava/util/function/BiFunction;" ∈ TT) (kk : ∀ q : Option Nat, AWD l D cy μ d rc rs em g (pc + 3) lv (va_rf q :: st) δ o) : AWD l D cy μ d rc rs em g pc lv st δ o := by
  intro r hr P X hP p e R s m args below meth c L A H locs cells slots mc ms ls F r1 r2 r3 r4 r5 r6 r7 r8 hl
  rcases r4.2.2.2.2.1 with z | ⟨t, z⟩
  · exact va_gets F.1 F.2.1 z r2 F.2.2.2.2.1 (F.2.2.2.2.2.1 _ hw) (fun _ h9 => h9) hdg (kk none r hr P X hP p e R s m args below meth c L A H locs cells slots mc ms ls F r1 r2 r3 r4 r5 r6 r7 r8 hl)
  · exact va_gets F.1 F.2.1 z r2 F.2.2.2.2.1 (F.2.2.2.2.2.1 _ hw) (fun _ h9 => h9) hdg (kk (some t) r hr P X hP p e R s m args below meth c L A H locs cells slots mc ms ls F r1 r2 r3 r4 r5 r6 r7 r8 hl)
theorem w_slen {i : Nat} (hi : i < 16) (hdg : decode μ.2.1 pc = .ok (.arraylength, 1)) (kk : AWD l D cy μ d rc rs em g (pc + 1) lv (.int (Int32.ofNat (tx_n i)) :: st) δ o) : AWD l D cy μ d rc rs em g pc lv (.ref (D.2 101 i) :: st) δ o := by
  intro r hr P X hP p e R s m args below meth c L A H locs cells slots mc ms ls F r1 r2 r3 r4 r5 r6 r7 r8 hl
  exact va_tlen F.1 F.2.1 (r4.2.2.1 i hi).2.2.2 r2 rfl hdg (kk r hr P X hP p e R s m args below meth c L A H locs cells slots mc ms ls F r1 r2 r3 r4 r5 r6 r7 r8 hl)
theorem w_sbld {i : Nat} {j : Int32} (hi : i < 16) (hdg : decode μ.2.1 pc = .ok (.baload, 1)) (kk : AWD l D cy μ d rc rs em g (pc + 1) lv (.int (tx_b i j.toNatClampNeg) :: st) δ o) : AWD l D cy μ d rc rs em g pc lv (.int j :: .ref (D.2 101 i) :: st) δ (if j < 0 ∨ tx_n i ≤ j.toNatClampNeg then none else o) := w_gn (fun z r hr P X hP => by
  intro p e R s m args below meth c L A H locs cells slots mc ms ls F r1 r2 r3 r4 r5 r6 r7 r8 hl
  exact va_tb F.1 F.2.1 (r4.2.2.1 i hi).2.2.2 r2 z rfl hdg (kk r hr P X hP p e R s m args below meth c L A H locs cells slots mc ms ls F r1 r2 r3 r4 r5 r6 r7 r8 hl))
/-- a call of a method of a text -/
theorem a_callT {index n d' mc' ms' rc' rs' i : Nat} {As rest : List Value} {y : mth} (hi : i < 16) (hdg : decode μ.2.1 pc = .ok (.invokevirtual index, 3)) (hc : clV μ.1.cls index y n) (hn : As.length = n) (hC : y.1.cls = "java/lang/String") (hst : (rest.map fun v => v.category).sum ≤ 8) (hd : d' + 1 ≤ d) (hrc : rc' + mc' ≤ rc) (hrs : rs' + ms' ≤ rs)
    (k : Cal l D cy y d' mc' ms' (.ref (D.2 100 i) :: As) (g, h) (fun v h' => AW l D cy μ d rc' rs' P X (pc + 3) lv (v.toList ++ rest) h') X) : AW l D cy μ d rc rs P X pc lv (As.reverse ++ .ref (D.2 100 i) :: rest) (g, h) := by
  intro p e R s m args below meth c L A H locs cells slots mc ms ls F r1 r2 r3 r4 r5 r6 r7 r8 hl
  obtain ⟨c1, c2, c3, c4, c5, c6, c7⟩ := hc
  obtain ⟨g1, g2, g3, g4, g5, g6, g7, g8, g9, g10, g11, g12, g13, g14⟩ := id F
  refine run_on (h := (g, h)) (rest := rest) (mc' := mc') (ms' := ms') (rc' := rc') (rs' := rs') (a := (Value.ref (D.2 100 i) :: As).toArray) hrc hrs F r1 r2 r3 r4 r5 r6 r7 r8 hl ?_
  have hrecv : ∃ cell : Cell, H[D.2 100 i]? = some cell ∧ cell.vm.isStatics = false ∧ s.vm.findClass "java/lang/String" = some cell.cls := by
    obtain ⟨cell, h1, h2, h3, -⟩ := (r4.2.2.1 i hi).1.kept r2.2.1
    exact ⟨cell, h1, h2, h3⟩
  rw [← hC] at hrecv
  exact vx_runV (n := n) (C := y.1.cls) (As := As) (rest := rest) (g := F0 m pc ls (As.reverse ++ .ref (D.2 100 i) :: rest)) ⟨g1, g2, g4, g5, g6⟩ (k H.size L)
    ⟨callB_of n g6 (good_cons c5) rfl rfl rfl (g6 _ c4) (g6 _ c1) c6 ⟨by show d' + 1 ≤ _; omega, by show 8 + (y.2.2.1 + 11) + 60 * d' ≤ _; omega⟩, g6 _ c2, g6 _ c3⟩
    ⟨pre_blind, hrecv, fun U hU hW => ⟨rfl, pre_of F r1 r2 r3 r4 U hU hW⟩⟩ rfl hn hl.1 rfl (lv_room hst) hdg ⟨by omega, by omega⟩
theorem w_callT {σ : Type} {em' : σ → (Option Value ⊕ String) × dp} {vs : σ → List Value} {ds : σ → dp} {i index n d' : Nat} {As rest st0 : List Value} {y : mth} {F : Option σ} {o' : σ → Option ρ} (hi : i < 16) (hdg : decode μ.2.1 pc = .ok (.invokevirtual index, 3)) (hc : clV μ.1.cls index y n) (hs : st0 = As.reverse ++ .ref (D.2 100 i) :: rest) (hn : As.length = n) (hC : y.1.cls = "java/lang/String") (hst : (rest.map fun v => v.category).sum ≤ 8) (hd : d' + 1 ≤ d) (hem : ∀ q : σ, ∃ v : Option Value, em' q = (.inl v, ds q) ∧ v.toList = vs q)
    (hF : CalD l D cy y d' 0 0 em' g (.ref (D.2 100 i) :: As) δ F) (k : ∀ q : σ, AWD l D cy μ d rc rs em g (pc + 3) lv (vs q ++ rest) (ds q) (o' q)) : AWD l D cy μ d rc rs em g pc lv st0 δ (F.bind o') := by
  intro r hr P X hP
  obtain ⟨q, hq, h2⟩ := Option.bind_eq_some_iff.mp hr
  obtain ⟨v, hv, hv2⟩ := hem q
  rw [hs]
  refine a_callT (rc' := rc) (rs' := rs) (mc' := 0) (ms' := 0) hi hdg hc hn hC hst hd (by omega) (by omega) (hF q hq _ _ ?_)
  rw [hv]
  show AW l D cy μ d rc rs P X (pc + 3) lv (v.toList ++ rest) (g, ds q)
  rw [hv2]
  exact k q r h2 P X hP
/-- an answer of a type that narrows -/
theorem w_nret {v : Int32} {ty : FieldType} (hdg : decode μ.2.1 pc = .ok (.ireturn, 1)) (hr : μ.2.2.2 = some ty) (hn : narrow ty (.int v) = .int v) {q : ρ} (hq : em q = (.inl (some (.int v)), δ)) : AWD l D cy μ d rc rs em g pc lv [.int v] δ (some q) := fun r h P X hP => by
  cases h
  rw [hq] at hP
  exact a_iret hdg hr hn hP
end XR
