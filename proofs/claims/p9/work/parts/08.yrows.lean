/-! throws -/
def nms : List String := ["java/lang/RuntimeException", "java/lang/Exception"]
def thr (own : String) (ik ic : Nat) (cls : String) : Prop := Cond.classLink own ik cls ∈ TT ∧ Cond.initialized cls ∈ TT ∧ Bundle.fit cls = true ∧ (∀ w ∈ vx_at0 own ic cls nms, w ∈ lw_tbl ∧ (goodWord w || nst0 w) = true) ∧ ∀ w ∈ Cond.classLink own ik cls :: Cond.initialized cls :: vx_at0 own ic cls nms, vx_ot w = true
theorem nms_fit : ∀ n ∈ nms, Bundle.fit n = true := by decide +kernel
section YR
variable {l : Launch} {D : va_G} {cy : Nat → ClassId} {μ : mth} {d rc rs : Nat} {P : Option Value → hp → Prop} {X : String → hp → Prop} {pc : Nat} {lv : List (Nat × Value)} {st : List Value} {g : gp} {h : hp} {δ : dp} {ρ : Type} {em : ρ → (Option Value ⊕ String) × dp} {o : Option ρ}
theorem a_wk {rc' rs' : Nat} (h1 : rc' ≤ rc) (h2 : rs' ≤ rs) (k : AW l D cy μ d rc' rs' P X pc lv st h) : AW l D cy μ d rc rs P X pc lv st h := by
  intro p e R s m args below meth c L A H locs cells slots mc ms ls F r1 r2 r3 r4 r5 r6 r7 r8 hl
  exact k p e R s m args below meth c L A H locs cells slots mc ms ls F r1 r2 r3 r4 (by omega) (by omega) r7 r8 hl
theorem w_wk (rc' rs' : Nat) (h1 : rc' ≤ rc) (h2 : rs' ≤ rs) (k : AWD l D cy μ d rc' rs' em g pc lv st δ o) : AWD l D cy μ d rc rs em g pc lv st δ o := fun r hr P X hP => a_wk h1 h2 (k r hr P X hP)
theorem a_throw {ik ic : Nat} {cls : String} (d0 : decode μ.2.1 pc = .ok (.new ik, 3)) (d3 : decode μ.2.1 (pc + 3) = .ok (.dup, 1)) (d4 : decode μ.2.1 (pc + 4) = .ok (.invokespecial ic, 3)) (d7 : decode μ.2.1 (pc + 7) = .ok (.athrow, 1)) (ht : thr μ.1.cls ik ic cls) (hst : (st.map fun v => v.category).sum ≤ 8) (hd : 10 ≤ d) (hrc : 1 ≤ rc) (hrs : 6 ≤ rs) (hX : X cls h) : AW l D cy μ d rc rs P X pc lv st h := by
  intro p e R s m args below meth c L A H locs cells slots mc ms ls F r1 r2 r3 r4 r5 r6 r7 r8 hl
  obtain ⟨t1, t2, t3, t4, t5⟩ := ht
  obtain ⟨g1, g2, g3, g4, g5, g6, g7, g8, g9, g10, g11, g12, g13, g14, g15⟩ := id F
  have hat : ∀ w ∈ vx_at0 μ.1.cls ic cls nms, w.before args s = true := by
    intro w hw
    obtain ⟨q1, q2⟩ := t4 w hw
    rcases (Bool.or_eq_true _ _).mp q2 with q2 | q2
    · exact g6 w (List.mem_filter.mpr ⟨q1, q2⟩)
    · have hn := g13 w (List.mem_filter.mpr ⟨q1, q2⟩)
      cases w <;> first | exact va_Nw.use rfl hn | cases q2
  refine vx_throw0 (names := nms) (cls := cls) (ik := ik) (ic := ic) (A := A) g1 g2 g14 g5 t3 nms_fit (g6 _ t1) (g6 _ t2) hat t5 r4.1 r4.2.1 r2 (hl.1.trans g4.symm) d0 d3 d4 d7 (fun x hx => (g9 x hx).elim) (by show 2 + 3 < R.frames; omega) (by show (st.map fun v => v.category).sum + (13 * (2 + 1) + 42) ≤ R.locals; omega) (by omega) (by omega) g8 ?_ r2.2.2 (by omega) (by omega)
  intro t hal hsz hsame
  refine ⟨⟨h, hX, ⟨L, ⟨r1.1.kept (fun k x hx => hsame x.1 ((r1.1 k x hx).lt)), r1.2.1, r1.2.2⟩⟩, va_K.moved hal g7⟩, Nat.le_trans r2.1 hsz, fun q hq hA => (hsame q (Nat.lt_of_lt_of_le hq r2.1)).trans (r2.2.1 q hq hA)⟩
theorem w_throw {ik ic n : Nat} (d0 : decode μ.2.1 pc = .ok (.new ik, 3)) (d3 : decode μ.2.1 (pc + 3) = .ok (.dup, 1)) (d4 : decode μ.2.1 (pc + 4) = .ok (.invokespecial ic, 3)) (d7 : decode μ.2.1 (pc + 7) = .ok (.athrow, 1)) (ht : thr μ.1.cls ik ic (exn n)) (hst : (st.map fun v => v.category).sum ≤ 8) (hd : 10 ≤ d) (hrc : 1 ≤ rc) (hrs : 6 ≤ rs) {q : ρ} (hq : em q = (.inr (exn n), δ)) : AWD l D cy μ d rc rs em g pc lv st δ (some q) := fun r hr P X hP => by
  cases hr
  rw [hq] at hP
  exact a_throw d0 d3 d4 d7 ht hst hd hrc hrs hP
/-- a call that may throw; its throw goes on -/
def bx {ρ : Type} (F : Option ((Int32 ⊕ Nat) × dp)) (tw : Nat → dp → ρ) (o : Int32 → dp → Option ρ) : Option ρ := F.bind fun r => match r.1 with
  | .inl v => o v r.2
  | .inr n => some (tw n r.2)
def bxv {ρ : Type} (F : Option ((Unit ⊕ Nat) × dp)) (tw : Nat → dp → ρ) (o : dp → Option ρ) : Option ρ := F.bind fun r => match r.1 with
  | .inl _ => o r.2
  | .inr n => some (tw n r.2)
theorem w_callX {rc' rs' mc' ms' b ci index n d' : Nat} {As rest st0 : List Value} {y : mth} {F : Option ((Int32 ⊕ Nat) × dp)} {tw : Nat → dp → ρ} {o' : Int32 → dp → Option ρ} (htw : ∀ n δ, em (tw n δ) = (.inr (exn n), δ)) (hdg : decode μ.2.1 pc = .ok (.invokevirtual index, 3)) (hc : clV μ.1.cls index y n) (hs : st0 = As.reverse ++ .ref b :: rest) (hn : As.length = n) (hK : q_K g b = ci) (hci : ci < 13) (hC : (vwCl[ci]?).map (fun q => q.1) = some y.1.cls) (hst : (rest.map fun v => v.category).sum ≤ 8) (hd : d' + 1 ≤ d) (hrc : rc' + mc' ≤ rc) (hrs : rs' + ms' ≤ rs)
    (hF : CalD l D cy y d' mc' ms' ex g (.ref b :: As) δ F) (k : ∀ (v : Int32) (δ' : dp), AWD l D cy μ d rc' rs' em g (pc + 3) lv (.int v :: rest) δ' (o' v δ')) : AWD l D cy μ d rc rs em g pc lv st0 δ (bx F tw o') := by
  intro r hr P X hP
  obtain ⟨q, hq, h2⟩ := Option.bind_eq_some_iff.mp hr
  rw [hs]
  refine a_callV (h := (g, δ)) (rc' := rc') (rs' := rs') (mc' := mc') (ms' := ms') hdg hc hn hK hci hC hst hd hrc hrs (hF q hq _ _ ?_)
  obtain ⟨qa, qd⟩ := q
  cases qa with
  | inl v => exact k v qd r h2 P X hP
  | inr n9 =>
    have e : r = tw n9 qd := (Option.some.inj h2).symm
    rw [e, htw] at hP
    exact hP
theorem w_callXv {rc' rs' mc' ms' b ci index n d' : Nat} {As rest st0 : List Value} {y : mth} {F : Option ((Unit ⊕ Nat) × dp)} {tw : Nat → dp → ρ} {o' : dp → Option ρ} (htw : ∀ n δ, em (tw n δ) = (.inr (exn n), δ)) (hdg : decode μ.2.1 pc = .ok (.invokevirtual index, 3)) (hc : clV μ.1.cls index y n) (hs : st0 = As.reverse ++ .ref b :: rest) (hn : As.length = n) (hK : q_K g b = ci) (hci : ci < 13) (hC : (vwCl[ci]?).map (fun q => q.1) = some y.1.cls) (hst : (rest.map fun v => v.category).sum ≤ 8) (hd : d' + 1 ≤ d) (hrc : rc' + mc' ≤ rc) (hrs : rs' + ms' ≤ rs)
    (hF : CalD l D cy y d' mc' ms' exv g (.ref b :: As) δ F) (k : ∀ δ' : dp, AWD l D cy μ d rc' rs' em g (pc + 3) lv rest δ' (o' δ')) : AWD l D cy μ d rc rs em g pc lv st0 δ (bxv F tw o') := by
  intro r hr P X hP
  obtain ⟨q, hq, h2⟩ := Option.bind_eq_some_iff.mp hr
  rw [hs]
  refine a_callV (h := (g, δ)) (rc' := rc') (rs' := rs') (mc' := mc') (ms' := ms') hdg hc hn hK hci hC hst hd hrc hrs (hF q hq _ _ ?_)
  obtain ⟨qa, qd⟩ := q
  cases qa with
  | inl v => exact k qd r h2 P X hP
  | inr n9 =>
    have e : r = tw n9 qd := (Option.some.inj h2).symm
    rw [e, htw] at hP
    exact hP
end YR
