/-! new T[n][m] -/
def n_ar2 (h : hp) (t t' q n m : Nat) (r : Nat → Nat) : hp := ((q_O h.1, va_up (vr_up (q_E h.1) ((List.range n).map r) (fun _ => none)) q (fun i => if i < n then some (r i) else none), va_up (vr_up (q_K h.1) ((List.range n).map r) (t' + 13)) q (t + 13), va_up (vr_up (q_N h.1) ((List.range n).map r) m) q n), (q_I h.2, vr_up (q_R h.2) ((List.range n).map r) (fun _ => 0), vr_up (q_J h.2) ((List.range n).map r) (fun _ => 0), q_V h.2))
section MR
variable {l : Launch} {D : va_G} {cy : Nat → ClassId} {μ : mth} {d rc rs : Nat} {P : Option Value → hp → Prop} {X : String → hp → Prop} {pc : Nat} {lv : List (Nat × Value)} {st : List Value} {h : hp}
theorem a_mna (t t' : Nat) {ty : FieldType} {n k : Int32} {index rc' rs' : Nat} (hdg : decode μ.2.1 pc = .ok (.multianewarray index 2, 4)) (ht : t = 5 ∧ t' = 0 ∧ ty = .int ∨ t = 6 ∧ t' = 1 ∧ ty = .long) (hcl : Cond.classLink μ.1.cls index ("[" ++ (FieldType.array ty).toString) ∈ TT) (hw : Cond.arrayClass ty ∈ TT) (hn : ¬ n < 0) (hk : ¬ k < 0) (hn1 : n.toNatClampNeg ≤ 1000) (hk1 : k.toNatClampNeg ≤ 1000) (hrc : rc' + (1 + n.toNatClampNeg) ≤ rc) (hrs : rs' + (n.toNatClampNeg + n.toNatClampNeg * k.toNatClampNeg) ≤ rs)
    (kk : ∀ (q : Nat) (r : Nat → Nat), q_K h.1 q = 99 → (∀ i, i < n.toNatClampNeg → q_K h.1 (r i) = 99 ∧ r i ≠ q) → (∀ i j, i < n.toNatClampNeg → j < n.toNatClampNeg → r i = r j → i = j) → AW l D cy μ d rc' rs' P X (pc + 4) lv (.ref q :: st) (n_ar2 h t t' q n.toNatClampNeg k.toNatClampNeg r)) : AW l D cy μ d rc rs P X pc lv (.int k :: .int n :: st) h := by
  intro p e R s m args below meth c L A H locs cells slots mc ms ls F r1 r2 r3 r4 r5 r6 r7 r8 hl
  obtain ⟨g1, g2, g3, g4, g5, g6, g7, g8⟩ := id F
  have hov : va_AOA ty s := by
    rcases ht with ⟨-, -, e⟩ | ⟨-, -, e⟩
    · rw [e]; exact F.2.2.2.2.2.2.2.2.2.2.2.2.2.2.2.2.2.1
    · rw [e]; exact F.2.2.2.2.2.2.2.2.2.2.2.2.2.2.2.2.2.2.1
  have go : ∀ (z : vp_A) (hz : ∀ c : ClassId, Jvm.Free.Multi.innerC c k.toNatClampNeg (defaultValue ty) = vp_cell c z) (hty : (tys cy)[t]? = some (cy t, .array ty)) (hcy : s.vm.findClass (FieldType.array ty).toString = some (cy t')) (h3 : 3 ≤ t) (hb2 : k.toNatClampNeg * componentBytes ty ≤ 536870912) (hdf : fits ty (defaultValue ty) = true) (hdd : (defaultValue ty).isDefault = true)
      (hin : ∀ (h' : hp) (b : Nat), q_K h'.1 b = t' + 13 → q_N h'.1 b = k.toNatClampNeg → q_R h'.2 b = (fun _ => 0) → q_J h'.2 b = (fun _ => 0) → cel cy h' b = .inl (cy t', z)), W p l e R s m args below meth c H locs cells slots (vx_MQ below (qc D cy P A) (xc D cy X A) args s mc ms A) (F0 m pc ls (.int k :: .int n :: st)) := by
    intro z hz hty hcy h3 hb2 hdf hdd hin
    refine va_mna (X := []) (L := L) (f := cel cy h) g1 g2 g5 (g6 _ hcl) hov (g6 _ hw) hcy g7 r1.1 r1.2.1 r2 r3 hn hk rfl rfl (by omega) hb2 (by omega) hdf hdd (by omega) (by omega) hz hdg (fun q r cA H1 hinj hfr hK2 hP hD hS => ?_)
    have hA2 := (hK2.2 (tys cy).length (cA, .array ty) (by rw [List.getElem?_append_right (Nat.le_refl _)]; simp)).2
    have e9 : cA = cy t := ra_eq hA2 (g7.2 t _ hty).2
    subst e9
    generalize hl9 : (List.range n.toNatClampNeg).map r = rl at hP hD
    have hr9 : ∀ i, i < n.toNatClampNeg → r i ∈ rl := fun i hi => by rw [← hl9]; exact List.mem_map.mpr ⟨i, List.mem_range.mpr hi, rfl⟩
    have hq : q ∉ L ++ rl := by
      intro hmem
      obtain ⟨k9, hk9⟩ := va_pl_get (X := []) (f := vr_up (cel cy h) rl (.inl (cy t', z))) hmem
      have h2 : (([] ++ [(q, (.inl (cy t, n.toNatClampNeg, .inr (.inr (.inr (.inr (fun i => if i < n.toNatClampNeg then some (r i) else none))))) : va_E))]) ++ va_pl (L ++ rl) (vr_up (cel cy h) rl (.inl (cy t', z))))[k9 + 1]? = some (q, vr_up (cel cy h) rl (.inl (cy t', z)) q) := hk9
      have := hD.1 0 (k9 + 1) _ _ rfl h2 rfl
      omega
    have hqL : q ∉ L := fun z => hq (List.mem_append_left _ z)
    have hqr : q ∉ rl := fun z => hq (List.mem_append_right _ z)
    have ecel : ∀ b, b ≠ q → cel cy (n_ar2 h t t' q n.toNatClampNeg k.toNatClampNeg r) b = vr_up (cel cy h) rl (.inl (cy t', z)) b := by
      intro b hb
      by_cases hbr : b ∈ rl
      · rw [vr_up_in hbr]
        refine hin _ b ?_ ?_ ?_ ?_
        · show va_up (vr_up (q_K h.1) ((List.range n.toNatClampNeg).map r) (t' + 13)) q (t + 13) b = _
          rw [hl9, va_up_ne _ _ hb, vr_up_in hbr]
        · show va_up (vr_up (q_N h.1) ((List.range n.toNatClampNeg).map r) k.toNatClampNeg) q n.toNatClampNeg b = _
          rw [hl9, va_up_ne _ _ hb, vr_up_in hbr]
        · show vr_up (q_R h.2) ((List.range n.toNatClampNeg).map r) (fun _ => 0) b = _
          rw [hl9, vr_up_in hbr]
        · show vr_up (q_J h.2) ((List.range n.toNatClampNeg).map r) (fun _ => 0) b = _
          rw [hl9, vr_up_in hbr]
      · rw [vr_up_ne hbr]
        refine cel_full ?_ ?_ ?_ (fun _ _ => rfl) (fun _ _ => rfl) (fun _ _ => rfl) ?_ ?_
        · show va_up (vr_up (q_K h.1) ((List.range n.toNatClampNeg).map r) (t' + 13)) q (t + 13) b = _
          rw [hl9, va_up_ne _ _ hb, vr_up_ne hbr]
        · show va_up (vr_up (q_N h.1) ((List.range n.toNatClampNeg).map r) k.toNatClampNeg) q n.toNatClampNeg b = _
          rw [hl9, va_up_ne _ _ hb, vr_up_ne hbr]
        · show va_up (vr_up (q_E h.1) ((List.range n.toNatClampNeg).map r) (fun _ => none)) q _ b = _
          rw [hl9, va_up_ne _ _ hb, vr_up_ne hbr]
        · show vr_up (q_R h.2) ((List.range n.toNatClampNeg).map r) (fun _ => 0) b = _
          rw [hl9, vr_up_ne hbr]
        · show vr_up (q_J h.2) ((List.range n.toNatClampNeg).map r) (fun _ => 0) b = _
          rw [hl9, vr_up_ne hbr]
    have eq9 : cel cy (n_ar2 h t t' q n.toNatClampNeg k.toNatClampNeg r) q = .inl (cy t, n.toNatClampNeg, .inr (.inr (.inr (.inr (fun i => if i < n.toNatClampNeg then some (r i) else none))))) := by
      rw [cel_e (h := n_ar2 h t t' q n.toNatClampNeg k.toNatClampNeg r) (t := t) (va_up_self _ _ _) h3]
      simp [n_ar2, q_N, q_E, va_up]
    have ews : ([] ++ [(q, (.inl (cy t, n.toNatClampNeg, .inr (.inr (.inr (.inr (fun i => if i < n.toNatClampNeg then some (r i) else none))))) : va_E))]) ++ va_pl (L ++ rl) (vr_up (cel cy h) rl (.inl (cy t', z))) = va_pl (q :: (L ++ rl)) (cel cy (n_ar2 h t t' q n.toNatClampNeg k.toNatClampNeg r)) := by
      show (q, _) :: va_pl (L ++ rl) _ = (q, _) :: va_pl (L ++ rl) _
      rw [eq9]
      refine congrArg (fun w => (q, _) :: w) ?_
      unfold va_pl
      apply List.map_congr_left
      intro b hb
      rw [ecel b (fun e => hq (e ▸ hb))]
    rw [ews] at hP hD
    have r9 : rp D cy A (q :: (L ++ rl)) (n_ar2 h t t' q n.toNatClampNeg k.toNatClampNeg r) H1 := by
      refine ⟨hP, hD, fun a ha => ?_⟩
      have ha1 : a ≠ q := fun e => ha (by rw [e]; exact List.mem_cons_self)
      have ha2 : a ∉ L := fun e => ha (List.mem_cons_of_mem _ (List.mem_append_left _ e))
      have ha3 : a ∉ rl := fun e => ha (List.mem_cons_of_mem _ (List.mem_append_right _ e))
      show va_up (vr_up (q_K h.1) ((List.range n.toNatClampNeg).map r) (t' + 13)) q (t + 13) a = 99
      rw [hl9, va_up_ne _ _ ha1, vr_up_ne ha3]
      exact r1.2.2 a ha2
    exact kk q r (r1.2.2 q hqL) (fun i hi => ⟨r1.2.2 _ (hfr i hi), fun e => hqr (e ▸ hr9 i hi)⟩) hinj p e R s m args below meth c (q :: (L ++ rl)) A H1 locs (cells + 1 + n.toNatClampNeg) (slots + n.toNatClampNeg + n.toNatClampNeg * k.toNatClampNeg) mc ms ls F r9 hS r3 r4 (by omega) (by omega) r7 r8 hl
  rcases ht with ⟨rfl, rfl, rfl⟩ | ⟨rfl, rfl, rfl⟩
  · exact go (k.toNatClampNeg, .inl (fun _ => 0)) (fun c9 => by show ({ cls := c9, slots := Array.replicate k.toNatClampNeg (.int 0), vm := .none } : Cell) = _; rw [arrV_new]; rfl) rfl (g7.2 0 _ rfl).2 (by omega) (by show _ * 4 ≤ _; omega) rfl rfl (fun h' b hK hN hR hJ => by rw [cel_i (h := h') hK, hN, hR])
  · exact go (k.toNatClampNeg, .inr (.inl (fun _ => 0))) (fun c9 => by show ({ cls := c9, slots := Array.replicate k.toNatClampNeg (.long 0), vm := .none } : Cell) = _; rw [arrV_new]; rfl) rfl (g7.2 1 _ rfl).2 (by omega) (by show _ * 8 ≤ _; omega) rfl rfl (fun h' b hK hN hR hJ => by rw [cel_j (h := h') hK, hN, hJ])
end MR
