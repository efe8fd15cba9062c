/-! layouts: the heap told by a table of cells: kind, length, references (places of the table), ints -/
abbrev tc : Type := Nat × Nat × List (Option Nat) × List Int32
def rok (ad : List Nat) (r o : Option Nat) : Prop := match r with
  | none => o = none
  | some j => ∃ b, ad[j]? = some b ∧ o = some b
def cok (h : hp) (ad : List Nat) (a : Nat) (c : tc) : Prop :=
  q_K h.1 a = c.1 ∧ c.1 < 20 ∧ (c.1 < 13 → ∀ k, rok ad (c.2.2.1.getD k none) (q_O h.1 c.1 k a) ∧ q_I h.2 c.1 k a = c.2.2.2.getD k 0 ∧ q_V h.2 c.1 k a = none) ∧ (13 ≤ c.1 → q_N h.1 a = c.2.1) ∧ (13 ≤ c.1 → c.1 < 16 → q_R h.2 a = (fun _ => 0) ∧ q_J h.2 a = fun _ => 0) ∧ (16 ≤ c.1 → ∀ k, rok ad (c.2.2.1.getD k none) (q_E h.1 a k))
def Lay (t : List tc) (ad : List Nat) (h : hp) : Prop := ad.length = t.length ∧ ad.Nodup ∧ (∀ a, a ∉ ad → q_K h.1 a = 99) ∧ ∀ (i : Nat) (c : tc), t[i]? = some c → ∃ a, ad[i]? = some a ∧ cok h ad a c
def Pre (ad ad1 : List Nat) : Prop := ∀ (j b : Nat), ad[j]? = some b → ad1[j]? = some b
theorem Pre.rf {ad : List Nat} : Pre ad ad := fun _ _ h => h
theorem Pre.tr {a b c : List Nat} (h : Pre a b) (k : Pre b c) : Pre a c := fun j x q => k j x (h j x q)
theorem Pre.app {ad z : List Nat} : Pre ad (ad ++ z) := fun j b h => by
  rw [List.getElem?_append_left ((List.getElem?_eq_some_iff.mp h).1)]
  exact h
theorem rok.pre {ad ad1 : List Nat} {r o : Option Nat} (p : Pre ad ad1) (h : rok ad r o) : rok ad1 r o := by
  cases r with
  | none => exact h
  | some j => obtain ⟨b, h1, h2⟩ := h; exact ⟨b, p j b h1, h2⟩
def sm (h h' : hp) (b : Nat) : Prop := q_K h'.1 b = q_K h.1 b ∧ q_N h'.1 b = q_N h.1 b ∧ q_E h'.1 b = q_E h.1 b ∧ (∀ c k, q_O h'.1 c k b = q_O h.1 c k b) ∧ (∀ c k, q_I h'.2 c k b = q_I h.2 c k b) ∧ (∀ c k, q_V h'.2 c k b = q_V h.2 c k b) ∧ q_R h'.2 b = q_R h.2 b ∧ q_J h'.2 b = q_J h.2 b
theorem cok.to {h h' : hp} {ad ad1 : List Nat} {a : Nat} {c : tc} (p : Pre ad ad1) (s : sm h h' a) (k : cok h ad a c) : cok h' ad1 a c := by
  obtain ⟨s1, s2, s3, s4, s5, s6, s7, s8⟩ := s
  obtain ⟨k1, k2, k3, k4, k5, k6⟩ := k
  refine ⟨s1.trans k1, k2, fun z k => ?_, fun z => s2.trans (k4 z), fun z y => ⟨s7.trans (k5 z y).1, s8.trans (k5 z y).2⟩, fun z k => ?_⟩
  · rw [s4, s5, s6]
    exact ⟨(k3 z k).1.pre p, (k3 z k).2⟩
  · rw [s3]
    exact (k6 z k).pre p
theorem Lay.nin {t : List tc} {ad : List Nat} {h : hp} {q : Nat} (L : Lay t ad h) (f : q_K h.1 q = 99) : q ∉ ad := by
  intro hm
  obtain ⟨i, hi, e⟩ := List.getElem_of_mem hm
  have h1 : ad[i]? = some q := by rw [List.getElem?_eq_getElem hi, e]
  have h2 : i < t.length := by rw [← L.1]; exact hi
  obtain ⟨a, ha, hc⟩ := L.2.2.2 i _ (List.getElem?_eq_getElem h2)
  rw [h1] at ha
  cases ha
  have := hc.1
  have := hc.2.1
  omega
theorem Lay.push {t : List tc} {ad : List Nat} {h h' : hp} (L : Lay t ad h) (qs : List Nat) (cs : List tc) (hlen : qs.length = cs.length) (hnd : qs.Nodup) (hf : ∀ q ∈ qs, q_K h.1 q = 99) (hs : ∀ b, b ∉ qs → sm h h' b) (hc : ∀ (i : Nat) (c : tc), cs[i]? = some c → ∃ a, qs[i]? = some a ∧ cok h' (ad ++ qs) a c) : Lay (t ++ cs) (ad ++ qs) h' := by
  refine ⟨by simp [L.1, hlen], ?_, fun a ha => ?_, fun i c hi => ?_⟩
  · rw [List.nodup_append]
    refine ⟨L.2.1, hnd, fun a ha b hb e => ?_⟩
    subst e
    exact L.nin (hf a hb) ha
  · have h1 : a ∉ ad := fun z => ha (List.mem_append_left _ z)
    have h2 : a ∉ qs := fun z => ha (List.mem_append_right _ z)
    rw [(hs a h2).1]
    exact L.2.2.1 a h1
  · by_cases hl : i < t.length
    · rw [List.getElem?_append_left hl] at hi
      obtain ⟨a, ha, hk⟩ := L.2.2.2 i c hi
      refine ⟨a, Pre.app i a ha, hk.to Pre.app (hs a (fun z => ?_))⟩
      exact L.nin (hf a z) (List.mem_of_getElem? ha)
    · rw [List.getElem?_append_right (Nat.le_of_not_lt hl)] at hi
      obtain ⟨a, ha, hk⟩ := hc _ c hi
      refine ⟨a, ?_, hk⟩
      rw [List.getElem?_append_right (by rw [L.1]; exact Nat.le_of_not_lt hl), L.1]
      exact ha
def ob (ci nf : Nat) : tc := (ci, 0, List.replicate nf none, List.replicate nf 0)
def ar (kd n : Nat) : tc := (kd, n, [], [])
def aq (kd n : Nat) : tc := (kd, n, List.replicate n none, [])
theorem getD_none {n k : Nat} : (List.replicate n (none : Option Nat)).getD k none = none := by
  rw [List.getD_eq_getElem?_getD, List.getElem?_replicate]
  split <;> rfl
theorem getD_zero {n k : Nat} : (List.replicate n (0 : Int32)).getD k 0 = 0 := by
  rw [List.getD_eq_getElem?_getD, List.getElem?_replicate]
  split <;> rfl
theorem nat_one {q : Nat} {p : Nat → Prop} (h : p q) : ∀ x ∈ [q], p x := fun x hx => by rw [List.mem_singleton.mp hx]; exact h
theorem one_get {c d : tc} {i : Nat} (h : [c][i]? = some d) : i = 0 ∧ d = c := by
  cases i with
  | zero => exact ⟨rfl, (Option.some.inj h).symm⟩
  | succ n => simp at h
theorem ne_of_nin {b q : Nat} (h : b ∉ [q]) : b ≠ q := fun e => h (by rw [e]; exact List.mem_singleton.mpr rfl)
theorem Lay.obj {t : List tc} {ad : List Nat} {h : hp} (L : Lay t ad h) {ci q nf : Nat} (hci : ci < 13) (f : q_K h.1 q = 99) : Lay (t ++ [ob ci nf]) (ad ++ [q]) (n_obj h ci q) := by
  refine L.push [q] [ob ci nf] rfl (by simp) (nat_one f) (fun b hb => ?_) (fun i c hi => ?_)
  · have hb := ne_of_nin hb
    refine ⟨va_up_ne _ _ hb, rfl, rfl, fun c k => ?_, fun c k => ?_, fun c k => ?_, rfl, rfl⟩
    · show (if c = ci then va_up (q_O h.1 c k) q none else q_O h.1 c k) b = _
      split
      · exact va_up_ne _ _ hb
      · rfl
    · show (if c = ci then va_up (q_I h.2 c k) q 0 else q_I h.2 c k) b = _
      split
      · exact va_up_ne _ _ hb
      · rfl
    · show (if c = ci then va_up (q_V h.2 c k) q none else q_V h.2 c k) b = _
      split
      · exact va_up_ne _ _ hb
      · rfl
  · obtain ⟨rfl, rfl⟩ := one_get hi
    refine ⟨q, rfl, va_up_self _ _ _, by show ci < 20; omega, fun _ k => ⟨?_, ?_, ?_⟩, fun z => absurd z (by show ¬ 13 ≤ ci; omega), fun z => absurd z (by show ¬ 13 ≤ ci; omega), fun z => absurd z (by show ¬ 16 ≤ ci; omega)⟩
    · show rok _ ((List.replicate nf none).getD k none) _
      rw [getD_none]
      show (if ci = ci then va_up (q_O h.1 ci k) q none else q_O h.1 ci k) q = none
      rw [if_pos rfl, va_up_self]
    · show (if ci = ci then va_up (q_I h.2 ci k) q 0 else q_I h.2 ci k) q = (List.replicate nf (0 : Int32)).getD k 0
      rw [if_pos rfl, va_up_self, getD_zero]
    · show (if ci = ci then va_up (q_V h.2 ci k) q none else q_V h.2 ci k) q = none
      rw [if_pos rfl, va_up_self]
theorem Lay.arr {t : List tc} {ad : List Nat} {h : hp} (L : Lay t ad h) {y q n : Nat} (hy : y < 3) (f : q_K h.1 q = 99) : Lay (t ++ [ar (y + 13) n]) (ad ++ [q]) (n_arr h y q n) := by
  refine L.push [q] [ar (y + 13) n] rfl (by simp) (nat_one f) (fun b hb => ?_) (fun i c hi => ?_)
  · have hb := ne_of_nin hb
    exact ⟨va_up_ne _ _ hb, va_up_ne _ _ hb, va_up_ne _ _ hb, fun _ _ => rfl, fun _ _ => rfl, fun _ _ => rfl, va_up_ne _ _ hb, va_up_ne _ _ hb⟩
  · obtain ⟨rfl, rfl⟩ := one_get hi
    exact ⟨q, rfl, va_up_self _ _ _, by show y + 13 < 20; omega, fun z => absurd z (by show ¬ y + 13 < 13; omega), fun _ => va_up_self _ _ _, fun _ _ => ⟨va_up_self _ _ _, va_up_self _ _ _⟩, fun z => absurd z (by show ¬ 16 ≤ y + 13; omega)⟩
theorem Lay.arq {t : List tc} {ad : List Nat} {h : hp} (L : Lay t ad h) {y q n : Nat} (hy : 3 ≤ y) (hy2 : y < 7) (f : q_K h.1 q = 99) : Lay (t ++ [aq (y + 13) n]) (ad ++ [q]) (n_arr h y q n) := by
  refine L.push [q] [aq (y + 13) n] rfl (by simp) (nat_one f) (fun b hb => ?_) (fun i c hi => ?_)
  · have hb := ne_of_nin hb
    exact ⟨va_up_ne _ _ hb, va_up_ne _ _ hb, va_up_ne _ _ hb, fun _ _ => rfl, fun _ _ => rfl, fun _ _ => rfl, va_up_ne _ _ hb, va_up_ne _ _ hb⟩
  · obtain ⟨rfl, rfl⟩ := one_get hi
    refine ⟨q, rfl, va_up_self _ _ _, by show y + 13 < 20; omega, fun z => absurd z (by show ¬ y + 13 < 13; omega), fun _ => va_up_self _ _ _, fun _ z => absurd z (by show ¬ y + 13 < 16; omega), fun _ k => ?_⟩
    show rok _ ((List.replicate n none).getD k none) (va_up (q_E h.1) q (fun _ => none) q k)
    rw [getD_none, va_up_self]
    rfl
def a2 (kd kd' n m base : Nat) : List tc := (kd, n, (List.range n).map (fun i => some (base + 1 + i)), []) :: List.replicate n (ar kd' m)
theorem Lay.ar2 {t : List tc} {ad : List Nat} {h : hp} (L : Lay t ad h) {y y' q n m : Nat} {r : Nat → Nat} (hy : 3 ≤ y) (hy2 : y < 7) (hy' : y' < 3) (f : q_K h.1 q = 99) (f1 : ∀ i, i < n → q_K h.1 (r i) = 99 ∧ r i ≠ q) (f2 : ∀ i j, i < n → j < n → r i = r j → i = j) : Lay (t ++ a2 (y + 13) (y' + 13) n m t.length) (ad ++ (q :: (List.range n).map r)) (n_ar2 h y y' q n m r) := by
  have hr : ∀ x, x ∈ (List.range n).map r → ∃ i, i < n ∧ r i = x := fun x hx => by
    obtain ⟨i, hi, e⟩ := List.mem_map.mp hx
    exact ⟨i, List.mem_range.mp hi, e⟩
  have hq : q ∉ (List.range n).map r := fun z => by
    obtain ⟨i, hi, e⟩ := hr q z
    exact (f1 i hi).2 e
  refine L.push _ _ (by simp [a2]) ?_ (fun x hx => ?_) (fun b hb => ?_) (fun i c hi => ?_)
  · refine List.nodup_cons.mpr ⟨hq, ?_⟩
    rw [List.nodup_iff_pairwise_ne, List.pairwise_map]
    refine List.Pairwise.imp_of_mem ?_ (List.nodup_iff_pairwise_ne.mp List.nodup_range)
    intro a b ha hb hne e
    exact hne (f2 a b (List.mem_range.mp ha) (List.mem_range.mp hb) e)
  · rcases List.mem_cons.mp hx with rfl | hx
    · exact f
    · obtain ⟨i, hi, rfl⟩ := hr x hx
      exact (f1 i hi).1
  · have h1 : b ≠ q := fun e => hb (by rw [e]; exact List.mem_cons_self)
    have h2 : b ∉ (List.range n).map r := fun e => hb (List.mem_cons_of_mem _ e)
    refine ⟨?_, ?_, ?_, fun _ _ => rfl, fun _ _ => rfl, fun _ _ => rfl, ?_, ?_⟩
    · show va_up (vr_up (q_K h.1) _ _) q _ b = _
      rw [va_up_ne _ _ h1, vr_up_ne h2]
    · show va_up (vr_up (q_N h.1) _ _) q _ b = _
      rw [va_up_ne _ _ h1, vr_up_ne h2]
    · show va_up (vr_up (q_E h.1) _ _) q _ b = _
      rw [va_up_ne _ _ h1, vr_up_ne h2]
    · show vr_up (q_R h.2) _ _ b = _
      rw [vr_up_ne h2]
    · show vr_up (q_J h.2) _ _ b = _
      rw [vr_up_ne h2]
  · cases i with
    | zero =>
      cases hi
      refine ⟨q, rfl, va_up_self _ _ _, by show y + 13 < 20; omega, fun z => absurd z (by show ¬ y + 13 < 13; omega), fun _ => va_up_self _ _ _, fun _ z => absurd z (by show ¬ y + 13 < 16; omega), fun _ k => ?_⟩
      show rok _ (((List.range n).map (fun i => some (t.length + 1 + i))).getD k none) (va_up (vr_up (q_E h.1) _ _) q (fun i => if i < n then some (r i) else none) q k)
      rw [va_up_self, List.getD_eq_getElem?_getD, List.getElem?_map]
      by_cases hk : k < n
      · rw [List.getElem?_range hk]
        refine ⟨r k, ?_, by rw [if_pos hk]⟩
        rw [List.getElem?_append_right (by rw [L.1]; omega), L.1, show t.length + 1 + k - t.length = k + 1 by omega]
        show ((List.range n).map r)[k]? = _
        rw [List.getElem?_map, List.getElem?_range hk]
        rfl
      · rw [List.getElem?_eq_none (by simp; omega)]
        show (if k < n then some (r k) else none) = none
        rw [if_neg hk]
    | succ j =>
      have hj : j < n ∧ c = ar (y' + 13) m := by
        have : (List.replicate n (ar (y' + 13) m))[j]? = some c := hi
        rw [List.getElem?_replicate] at this
        split at this
        · rename_i z
          exact ⟨z, (Option.some.inj this).symm⟩
        · cases this
      obtain ⟨hj, rfl⟩ := hj
      have hm : r j ∈ (List.range n).map r := List.mem_map.mpr ⟨j, List.mem_range.mpr hj, rfl⟩
      have hne : r j ≠ q := (f1 j hj).2
      refine ⟨r j, ?_, ?_, by show y' + 13 < 20; omega, fun z => absurd z (by show ¬ y' + 13 < 13; omega), fun _ => ?_, fun _ _ => ⟨?_, ?_⟩, fun z => absurd z (by show ¬ 16 ≤ y' + 13; omega)⟩
      · show ((List.range n).map r)[j]? = _
        rw [List.getElem?_map, List.getElem?_range hj]
        rfl
      · show va_up (vr_up (q_K h.1) _ _) q _ (r j) = _
        rw [va_up_ne _ _ hne, vr_up_in hm]
        rfl
      · show va_up (vr_up (q_N h.1) _ _) q _ (r j) = _
        rw [va_up_ne _ _ hne, vr_up_in hm]
        rfl
      · show vr_up (q_R h.2) _ _ (r j) = _
        rw [vr_up_in hm]
      · show vr_up (q_J h.2) _ _ (r j) = _
        rw [vr_up_in hm]
/-- changes of one cell of the table -/
def uR (k j : Nat) (c : tc) : tc := (c.1, c.2.1, c.2.2.1.set k (some j), c.2.2.2)
def uI (k : Nat) (v : Int32) (c : tc) : tc := (c.1, c.2.1, c.2.2.1, c.2.2.2.set k v)
def sg (t : List tc) (i : Nat) : Option (Nat × Nat × Nat) := t[i]?.map (fun c => (c.1, c.2.2.1.length, c.2.2.2.length))
def rf (t : List tc) (i k : Nat) : Option Nat := t[i]?.bind (fun c => c.2.2.1.getD k none)
theorem Lay.mod {t : List tc} {ad : List Nat} {h h' : hp} (L : Lay t ad h) {i a : Nat} {f : tc → tc} (A : ad[i]? = some a) (hs : ∀ b, b ≠ a → sm h h' b) (hK : q_K h'.1 a = q_K h.1 a) (hc : ∀ c, t[i]? = some c → cok h ad a c → cok h' ad a (f c)) : Lay (t.modify i f) ad h' := by
  refine ⟨by rw [List.length_modify]; exact L.1, L.2.1, fun b hb => ?_, fun j c hj => ?_⟩
  · have : b ≠ a := fun e => hb (by rw [e]; exact List.mem_of_getElem? A)
    rw [(hs b this).1]
    exact L.2.2.1 b hb
  · rw [List.getElem?_modify] at hj
    cases ht : t[j]? with
    | none => rw [ht] at hj; cases hj
    | some c0 =>
      rw [ht] at hj
      obtain ⟨b, hb, hk⟩ := L.2.2.2 j c0 ht
      by_cases e : i = j
      · subst e
        simp at hj
        rw [A] at hb
        cases hb
        exact ⟨a, A, hj ▸ hc c0 ht hk⟩
      · simp [e] at hj
        subst hj
        refine ⟨b, hb, hk.to Pre.rf (hs b (fun z => e ?_))⟩
        subst z
        exact (List.getElem?_inj ((List.getElem?_eq_some_iff.mp A).1) L.2.1).mp (A.trans hb.symm)
theorem getD_set {α : Type} {l : List α} {k k' : Nat} {v d : α} (hk : k < l.length) : (l.set k v).getD k' d = if k' = k then v else l.getD k' d := by
  rw [List.getD_eq_getElem?_getD, List.getD_eq_getElem?_getD, List.getElem?_set]
  by_cases e : k = k'
  · subst e; simp [hk]
  · simp [e, Ne.symm e]
theorem sg_of {t : List tc} {i : Nat} {c : tc} {x : Nat × Nat × Nat} (hc : t[i]? = some c) (h : sg t i = some x) : c.1 = x.1 ∧ c.2.2.1.length = x.2.1 ∧ c.2.2.2.length = x.2.2 := by
  unfold sg at h
  rw [hc] at h
  cases h
  exact ⟨rfl, rfl, rfl⟩
theorem Lay.wO {t : List tc} {ad : List Nat} {h : hp} (L : Lay t ad h) {i a ci nr ni k j b : Nat} (G : sg t i = some (ci, nr, ni)) (A : ad[i]? = some a) (hci : ci < 13) (hk : k < nr) (B : ad[j]? = some b) : Lay (t.modify i (uR k j)) ad (pO h ci k a (some b)) := by
  refine L.mod A (fun x hx => ⟨rfl, rfl, rfl, fun c k' => so_na hx, fun _ _ => rfl, fun _ _ => rfl, rfl, rfl⟩) rfl (fun c hc q => ?_)
  obtain ⟨e1, e2, e3⟩ := sg_of hc G
  dsimp only at e1 e2 e3
  obtain ⟨k1, k2, k3, k4, k5, k6⟩ := q
  refine ⟨k1, k2, fun z k' => ?_, k4, k5, fun z => absurd z (by show ¬ 16 ≤ c.1; omega)⟩
  refine ⟨?_, (k3 z k').2⟩
  show rok ad ((c.2.2.1.set k (some j)).getD k' none) (q_O (pO h ci k a (some b)).1 c.1 k' a)
  rw [getD_set (by omega)]
  by_cases e : k' = k
  · subst e
    rw [if_pos rfl, e1]
    exact ⟨b, B, so_eq⟩
  · rw [if_neg e, so_ne (fun z => e z.2)]
    exact (k3 z k').1
theorem Lay.wI {t : List tc} {ad : List Nat} {h : hp} (L : Lay t ad h) {i a ci nr ni k : Nat} {v : Int32} (G : sg t i = some (ci, nr, ni)) (A : ad[i]? = some a) (hci : ci < 13) (hk : k < ni) : Lay (t.modify i (uI k v)) ad (pI h ci k a v) := by
  refine L.mod A (fun x hx => ⟨rfl, rfl, rfl, fun _ _ => rfl, fun c k' => ?_, fun _ _ => rfl, rfl, rfl⟩) rfl (fun c hc q => ?_)
  · show (if c = ci ∧ k' = k then va_up (q_I h.2 ci k) a v else q_I h.2 c k') x = _
    split
    · rename_i z
      rw [va_up_ne _ _ hx, z.1, z.2]
    · rfl
  obtain ⟨e1, e2, e3⟩ := sg_of hc G
  dsimp only at e1 e2 e3
  obtain ⟨k1, k2, k3, k4, k5, k6⟩ := q
  refine ⟨k1, k2, fun z k' => ?_, k4, k5, fun z => absurd z (by show ¬ 16 ≤ c.1; omega)⟩
  refine ⟨(k3 z k').1, ?_, (k3 z k').2.2⟩
  show (if c.1 = ci ∧ k' = k then va_up (q_I h.2 ci k) a v else q_I h.2 c.1 k') a = (c.2.2.2.set k v).getD k' 0
  rw [getD_set (by omega)]
  by_cases e : k' = k
  · rw [if_pos ⟨e1, e⟩, if_pos e, va_up_self]
  · rw [if_neg (fun z => e z.2), if_neg e]
    exact (k3 z k').2.1
theorem Lay.wE {t : List tc} {ad : List Nat} {h : hp} (L : Lay t ad h) {i a kd nr ni k j b : Nat} (G : sg t i = some (kd, nr, ni)) (A : ad[i]? = some a) (hkd : 16 ≤ kd) (hk : k < nr) (B : ad[j]? = some b) : Lay (t.modify i (uR k j)) ad (s_E h.1 a k (some b), h.2) := by
  refine L.mod A (fun x hx => ⟨rfl, rfl, va_up_ne _ _ hx, fun _ _ => rfl, fun _ _ => rfl, fun _ _ => rfl, rfl, rfl⟩) rfl (fun c hc q => ?_)
  obtain ⟨e1, e2, e3⟩ := sg_of hc G
  dsimp only at e1 e2 e3
  obtain ⟨k1, k2, k3, k4, k5, k6⟩ := q
  refine ⟨k1, k2, fun z => absurd z (by show ¬ c.1 < 13; omega), k4, k5, fun z k' => ?_⟩
  show rok ad ((c.2.2.1.set k (some j)).getD k' none) (va_up (q_E h.1) a (va_up (q_E h.1 a) k (some b)) a k')
  rw [getD_set (by omega), va_up_self]
  by_cases e : k' = k
  · subst e
    rw [if_pos rfl, va_up_self]
    exact ⟨b, B, rfl⟩
  · rw [if_neg e, va_up_ne _ _ e]
    exact k6 z k'
theorem Lay.K {t : List tc} {ad : List Nat} {h : hp} (L : Lay t ad h) {i a : Nat} {x : Nat × Nat × Nat} (G : sg t i = some x) (A : ad[i]? = some a) : q_K h.1 a = x.1 := by
  unfold sg at G
  obtain ⟨c, hc, e⟩ := Option.map_eq_some_iff.mp G
  obtain ⟨a', h1, h2⟩ := L.2.2.2 i c hc
  rw [A] at h1
  cases h1
  rw [h2.1, ← e]
theorem Lay.rd {t : List tc} {ad : List Nat} {h : hp} (L : Lay t ad h) {i a k j ci nr ni : Nat} (G : sg t i = some (ci, nr, ni)) (A : ad[i]? = some a) (hci : ci < 13) (R : rf t i k = some j) : ∃ b, ad[j]? = some b ∧ q_O h.1 ci k a = some b := by
  unfold sg at G
  obtain ⟨c, hc, e⟩ := Option.map_eq_some_iff.mp G
  obtain ⟨a', h1, h2⟩ := L.2.2.2 i c hc
  rw [A] at h1
  cases h1
  unfold rf at R
  rw [hc] at R
  have R' : c.2.2.1.getD k none = some j := R
  have e1 : c.1 = ci := congrArg (fun z => z.1) e
  have h3 := (h2.2.2.1 (by omega) k).1
  rw [R', e1] at h3
  exact h3
theorem Lay.N {t : List tc} {ad : List Nat} {h : hp} (L : Lay t ad h) {i a : Nat} {c : tc} (A : ad[i]? = some a) (G : t[i]? = some c) (hk : 13 ≤ c.1) : q_N h.1 a = c.2.1 := by
  obtain ⟨a', h1, h2⟩ := L.2.2.2 i c G
  rw [A] at h1
  cases h1
  exact h2.2.2.2.1 hk
theorem sg_app {t z : List tc} {i : Nat} {x : Nat × Nat × Nat} (h : sg t i = some x) : sg (t ++ z) i = some x := by
  unfold sg at h ⊢
  obtain ⟨c, hc, e⟩ := Option.map_eq_some_iff.mp h
  rw [List.getElem?_append_left ((List.getElem?_eq_some_iff.mp hc).1), hc]
  exact congrArg some e
theorem sg_new {t : List tc} {c : tc} : sg (t ++ [c]) t.length = some (c.1, c.2.2.1.length, c.2.2.2.length) := by
  unfold sg
  rw [List.getElem?_append_right (Nat.le_refl _)]
  simp
theorem sg_ob {t : List tc} {ci nf : Nat} : sg (t ++ [ob ci nf]) t.length = some (ci, nf, nf) := by
  rw [sg_new]
  simp [ob]
theorem sg_mR {t : List tc} {i j k m : Nat} : sg (t.modify i (uR k m)) j = sg t j := by
  unfold sg
  rw [List.getElem?_modify]
  cases t[j]? with
  | none => rfl
  | some c =>
    by_cases e : i = j <;> simp [e, uR]
theorem sg_mI {t : List tc} {i j k : Nat} {v : Int32} : sg (t.modify i (uI k v)) j = sg t j := by
  unfold sg
  rw [List.getElem?_modify]
  cases t[j]? with
  | none => rfl
  | some c =>
    by_cases e : i = j <;> simp [e, uI]
theorem rf_app {t z : List tc} {i k j : Nat} (h : rf t i k = some j) : rf (t ++ z) i k = some j := by
  unfold rf at h ⊢
  obtain ⟨c, hc, e⟩ := Option.bind_eq_some_iff.mp h
  rw [List.getElem?_append_left ((List.getElem?_eq_some_iff.mp hc).1), hc]
  exact e
theorem rf_mO {t : List tc} {i j k : Nat} {f : tc → tc} (h : i ≠ j) : rf (t.modify i f) j k = rf t j k := by
  unfold rf
  rw [List.getElem?_modify]
  cases t[j]? with
  | none => rfl
  | some c => simp [h]
theorem rf_mI {t : List tc} {i j k k' : Nat} {v : Int32} : rf (t.modify i (uI k' v)) j k = rf t j k := by
  unfold rf
  rw [List.getElem?_modify]
  cases t[j]? with
  | none => rfl
  | some c => by_cases e : i = j <;> simp [e, uI]
theorem rf_mK {t : List tc} {i j k k' m : Nat} (h : k ≠ k') : rf (t.modify i (uR k' m)) j k = rf t j k := by
  unfold rf
  rw [List.getElem?_modify]
  cases t[j]? with
  | none => rfl
  | some c =>
    by_cases e : i = j
    · simp only [e, uR, if_true, Option.map_eq_map, Option.map_some, Option.bind_some, List.getD_eq_getElem?_getD, List.getElem?_set_ne (Ne.symm h)]
    · simp [e]
theorem rf_mS {t : List tc} {i k m ci nr ni : Nat} (G : sg t i = some (ci, nr, ni)) (hk : k < nr) : rf (t.modify i (uR k m)) i k = some m := by
  unfold sg at G
  obtain ⟨c, hc, e⟩ := Option.map_eq_some_iff.mp G
  unfold rf
  rw [List.getElem?_modify, hc]
  have e2 : c.2.2.1.length = nr := congrArg (fun z => z.2.1) e
  simp only [if_true, Option.map_eq_map, Option.map_some, Option.bind_some, uR]
  rw [getD_set (by omega), if_pos rfl]
section TR
variable {l : Launch} {D : va_G} {cy : Nat → ClassId} {μ : mth} {d rc rs : Nat} {P : Option Value → hp → Prop} {X : String → hp → Prop} {pc : Nat} {lv : List (Nat × Value)} {st : List Value} {h : hp} {t : List tc} {ad : List Nat}
theorem Lay.len {q : Nat} (L : Lay t ad h) : (ad ++ [q])[t.length]? = some q := by
  rw [← L.1, List.getElem?_append_right (Nat.le_refl _)]
  simp
theorem t_new (n : Nat) (L : Lay t ad h) (hn0 : t.length = n) {ci index rc' rs' nf : Nat} (hdg : decode μ.2.1 pc = .ok (.new index, 3)) (hn : nw μ.1.cls index ci) (hci : ci < 13) (hrc : rc' + 1 ≤ rc) (hrs : rs' + n_f ci ≤ rs) (kk : ∀ (q : Nat) (ad1 : List Nat) (h1 : hp), Pre ad ad1 → ad1[n]? = some q → Lay (t ++ [ob ci nf]) ad1 h1 → AW l D cy μ d rc' rs' P X (pc + 3) lv (.ref q :: st) h1) : AW l D cy μ d rc rs P X pc lv st h :=
  a_new hdg hn hrc hrs (fun q f => kk q _ _ Pre.app (by rw [← hn0]; exact L.len) (L.obj hci f))
theorem t_newI (n : Nat) (L : Lay t ad h) (hn0 : t.length = n) {atype : ArrayType} (y m : Nat) {ty : FieldType} {v : Int32} {rc' rs' : Nat} (hdg : decode μ.2.1 pc = .ok (.newarray atype, 2)) (hty : newarray.typeOf atype = ty) (ht : y = 0 ∧ ty = .int ∨ y = 1 ∧ ty = .long ∨ y = 2 ∧ ty = .boolean) (hw : Cond.arrayClass ty ∈ TT) (hv : ¬ v < 0) (hm : v.toNatClampNeg = m) (hby : m ≤ 1000000) (hrc : rc' + 1 ≤ rc) (hrs : rs' + m ≤ rs) (kk : ∀ (q : Nat) (ad1 : List Nat) (h1 : hp), Pre ad ad1 → ad1[n]? = some q → Lay (t ++ [ar (y + 13) m]) ad1 h1 → AW l D cy μ d rc' rs' P X (pc + 2) lv (.ref q :: st) h1) : AW l D cy μ d rc rs P X pc lv (.int v :: st) h := by
  subst hm
  have hy : y < 3 := by rcases ht with ⟨e, -⟩ | ⟨e, -⟩ | ⟨e, -⟩ <;> omega
  exact a_newI y hdg hty ht hw hv hby hrc hrs (fun q f => kk q _ _ Pre.app (by rw [← hn0]; exact L.len) (L.arr hy f))
theorem t_newQ (n : Nat) (L : Lay t ad h) (hn0 : t.length = n) {C : String} (y m : Nat) {v : Int32} {index rc' rs' : Nat} (hdg : decode μ.2.1 pc = .ok (.anewarray index, 3)) (hy : 3 ≤ y) (hy2 : y < 7) (hty : (tys cy)[y]? = some (cy y, .object C)) (hcl : Cond.classLink μ.1.cls index C ∈ TT) (hC : C = RX2 ∨ C = RX8) (hv : ¬ v < 0) (hm : v.toNatClampNeg = m) (hby : m ≤ 1000000) (hrc : rc' + 1 ≤ rc) (hrs : rs' + m ≤ rs) (kk : ∀ (q : Nat) (ad1 : List Nat) (h1 : hp), Pre ad ad1 → ad1[n]? = some q → Lay (t ++ [aq (y + 13) m]) ad1 h1 → AW l D cy μ d rc' rs' P X (pc + 3) lv (.ref q :: st) h1) : AW l D cy μ d rc rs P X pc lv (.int v :: st) h := by
  subst hm
  exact a_newQ y hdg hy hty hcl hC hv hby hrc hrs (fun q f => kk q _ _ Pre.app (by rw [← hn0]; exact L.len) (L.arq hy hy2 f))
theorem t_mna (n0 : Nat) (L : Lay t ad h) (hn0 : t.length = n0) (y y' n m : Nat) {ty : FieldType} {vn vm : Int32} {index rc' rs' : Nat} (hdg : decode μ.2.1 pc = .ok (.multianewarray index 2, 4)) (ht : y = 5 ∧ y' = 0 ∧ ty = .int ∨ y = 6 ∧ y' = 1 ∧ ty = .long) (hcl : Cond.classLink μ.1.cls index ("[" ++ (FieldType.array ty).toString) ∈ TT) (hw : Cond.arrayClass ty ∈ TT) (hn : ¬ vn < 0) (hk : ¬ vm < 0) (en : vn.toNatClampNeg = n) (em : vm.toNatClampNeg = m) (hn1 : n ≤ 1000) (hk1 : m ≤ 1000) (hrc : rc' + (1 + n) ≤ rc) (hrs : rs' + (n + n * m) ≤ rs)
    (kk : ∀ (q : Nat) (ad1 : List Nat) (h1 : hp), Pre ad ad1 → ad1[n0]? = some q → Lay (t ++ a2 (y + 13) (y' + 13) n m n0) ad1 h1 → AW l D cy μ d rc' rs' P X (pc + 4) lv (.ref q :: st) h1) : AW l D cy μ d rc rs P X pc lv (.int vm :: .int vn :: st) h := by
  subst en em hn0
  have h1 : 3 ≤ y ∧ y < 7 ∧ y' < 3 := by rcases ht with ⟨e, e', -⟩ | ⟨e, e', -⟩ <;> omega
  exact a_mna y y' hdg ht hcl hw hn hk hn1 hk1 hrc hrs (fun q r f f1 f2 => kk q _ _ Pre.app (by rw [← L.1, List.getElem?_append_right (Nat.le_refl _)]; simp) (L.ar2 h1.1 h1.2.1 h1.2.2 f f1 f2))
theorem t_putF (L : Lay t ad h) {i j ci nr ni k a b index : Nat} {ty : FieldType} (hdg : decode μ.2.1 pc = .ok (.putfield index, 3)) (hf : fld μ.1.cls index ci k) (hfl : ∀ q : vw_C, vwCl[ci]? = some q → Cond.fieldLink μ.1.cls index q.1 (q.2.1 k).2.1 (q.2.1 k).2.2.1 ∈ TT ∧ q.1 = μ.1.cls) (hw : flF ci k ty) (hin : μ.1.name = "<init>") (hr : i_r ci k = true) (hd : i_d ci k = false) (hn : narrow ty (.ref b) = .ref b) (hfit : fits ty (.ref b) = true) (G : sg t i = some (ci, nr, ni)) (A : ad[i]? = some a) (hk : k < nr) (B : ad[j]? = some b) (kk : ∀ h1 : hp, Lay (t.modify i (uR k j)) ad h1 → AW l D cy μ d rc rs P X (pc + 3) lv st h1) : AW l D cy μ d rc rs P X pc lv (.ref b :: .ref a :: st) h :=
  i_putF hdg hf hfl hw hin hr hd hn hfit (L.K G A) (kk _ (L.wO G A (fld_n hf).2 hk B))
theorem t_putI (L : Lay t ad h) {i ci nr ni k a index : Nat} {v : Int32} {ty : FieldType} (hdg : decode μ.2.1 pc = .ok (.putfield index, 3)) (hf : fld μ.1.cls index ci k) (hw : flw ci k ty) (hn : narrow ty (.int v) = .int v) (hfit : fits ty (.int v) = true) (hr : i_r ci k = false) (G : sg t i = some (ci, nr, ni)) (A : ad[i]? = some a) (hk : k < ni) (kk : ∀ h1 : hp, Lay (t.modify i (uI k v)) ad h1 → AW l D cy μ d rc rs P X (pc + 3) lv st h1) : AW l D cy μ d rc rs P X pc lv (.int v :: .ref a :: st) h :=
  i_putI hdg hf hw hn hfit hr (L.K G A) (kk _ (L.wI G A (fld_n hf).2 hk))
theorem t_get (L : Lay t ad h) {i j ci nr ni k a index : Nat} (hdg : decode μ.2.1 pc = .ok (.getfield index, 3)) (hf : fld μ.1.cls index ci k) (hr : i_r ci k = true) (hd : i_d ci k = false) (G : sg t i = some (ci, nr, ni)) (A : ad[i]? = some a) (R : rf t i k = some j) (kk : ∀ b, ad[j]? = some b → AW l D cy μ d rc rs P X (pc + 3) lv (.ref b :: st) h) : AW l D cy μ d rc rs P X pc lv (.ref a :: st) h := by
  obtain ⟨b, h1, h2⟩ := L.rd G A (fld_n hf).2 R
  exact i_get hdg hf hr hd (L.K G A) h2 (kk b h1)
/-- what a constructor leaves: the layout t -/
def inP (t : List tc) (ad : List Nat) : Option Value → hp → Prop := fun v h' => v = none ∧ ∃ ad1, Pre ad ad1 ∧ Lay t ad1 h'
theorem t_call {t' : List tc} {b index n d' mc' ms' rc' rs' : Nat} {As rest : List Value} {y : mth} (hdg : decode μ.2.1 pc = .ok (.invokespecial index, 3)) (hc : clI μ.1.cls index y n) (hn : As.length = n) (hst : (rest.map fun v => v.category).sum ≤ 8) (hd : d' + 1 ≤ d) (hrc : rc' + mc' ≤ rc) (hrs : rs' + ms' ≤ rs)
    (k : Cal l D cy y d' mc' ms' (.ref b :: As) h (inP t' ad) (fun _ _ => False)) (kk : ∀ (ad1 : List Nat) (h1 : hp), Pre ad ad1 → Lay t' ad1 h1 → AW l D cy μ d rc' rs' P X (pc + 3) lv rest h1) {st0 : List Value} (e0 : st0 = As.reverse ++ .ref b :: rest) : AW l D cy μ d rc rs P X pc lv st0 h := by
  subst e0
  refine a_callI hdg hc hn hst hd hrc hrs (Cal.mono k ?_ (fun _ _ z => z))
  rintro v h' ⟨rfl, ad1, p, L⟩
  exact kk ad1 h' p L
theorem t_aast (L : Lay t ad h) {i j a v ci y nr ni nr' ni' : Nat} {x : Int32} {r : vw_C} (m : Nat) (hdg : decode μ.2.1 pc = .ok (.aastore, 1)) (hy : 3 ≤ y) (h9 : y < 20) (hty : (tys cy)[y]? = some (cy y, .object r.1)) (hc : vwCl[ci]? = some r) (hci : ci < 13) (G : sg t i = some (y + 13, nr, ni)) (A : ad[i]? = some a) (G' : sg t j = some (ci, nr', ni')) (B : ad[j]? = some v) (hx : ¬ x < 0) (hm : x.toNatClampNeg = m) (hk : m < nr) (hN : q_N h.1 a = nr) (kk : ∀ h1 : hp, Lay (t.modify i (uR m j)) ad h1 → AW l D cy μ d rc rs P X (pc + 1) lv st h1) : AW l D cy μ d rc rs P X pc lv (.ref v :: .int x :: .ref a :: st) h := by
  subst hm
  refine a_aast (g := h.1) (δ := h.2) hdg (L.K G A) hy h9 hty hc hci (L.K G' B) (vp_n (by rw [hN]; rintro (z | z); exact hx z; omega)) (kk _ (L.wE G A (by omega) hk B))
end TR
def nn (t : List tc) (i : Nat) : Option Nat := t[i]?.map (fun c => c.2.1)
theorem Lay.Nn {t : List tc} {ad : List Nat} {h : hp} (L : Lay t ad h) {i a kd nr ni n : Nat} (A : ad[i]? = some a) (G : sg t i = some (kd, nr, ni)) (hk : 13 ≤ kd) (hn : nn t i = some n) : q_N h.1 a = n := by
  unfold sg at G
  obtain ⟨c, hc, e⟩ := Option.map_eq_some_iff.mp G
  unfold nn at hn
  rw [hc] at hn
  have e1 : c.1 = kd := congrArg (fun z => z.1) e
  rw [L.N A hc (by omega)]
  exact Option.some.inj hn
theorem len_a2 {kd kd' n m b : Nat} : (a2 kd kd' n m b).length = n + 1 := by simp [a2]
theorem Lay.lt {t : List tc} {ad : List Nat} {h : hp} (L : Lay t ad h) {i a : Nat} (A : ad[i]? = some a) : i < t.length := by rw [← L.1]; exact (List.getElem?_eq_some_iff.mp A).1
section TS
variable {l : Launch} {D : va_G} {cy : Nat → ClassId} {μ : mth} {d rc rs : Nat} {P : Option Value → hp → Prop} {X : String → hp → Prop} {pc : Nat} {lv : List (Nat × Value)} {st : List Value} {h : hp} {t : List tc} {ad : List Nat}
theorem t_alen (L : Lay t ad h) {i a nr ni : Nat} (y n : Nat) {v : Int32} {ty : FieldType} (hdg : decode μ.2.1 pc = .ok (.arraylength, 1)) (G : sg t i = some (y + 13, nr, ni)) (A : ad[i]? = some a) (hn : nn t i = some n) (hv : Int32.ofNat n = v) (hty : (tys cy)[y]? = some (cy y, ty)) (h9 : y < 20) (kk : AW l D cy μ d rc rs P X (pc + 1) lv (.int v :: st) h) : AW l D cy μ d rc rs P X pc lv (.ref a :: st) h := by
  refine a_alen (g := h.1) (h := h.2) hdg (L.K G A) hty h9 ?_
  rw [L.Nn A G (by omega) hn, hv]
  exact kk
end TS
