/-! a THIEF's step is written -/
theorem th_cell {ad : List Nat} {h : hp} (L : Lay TLx ad h) {a s v : Nat} (ka : q_K h.1 a = 8) (hs : q_O h.1 8 0 a = some s) (hv : q_O h.1 8 1 a = some v) : ∃ j, j < 5 ∧ a = Ad ad (60 + 3 * j) ∧ s = Ad ad (61 + 3 * j) ∧ v = Ad ad (62 + 3 * j) := by
  obtain ⟨i, hi, rfl⟩ := lay_cel L (by rw [ka]; decide)
  rw [lay_knd L hi] at ka
  have H : ∀ i : Fin 128, knd i.val = 8 → i.val ∈ [60, 63, 66, 69, 72] := by decide +kernel
  have hm := H ⟨i, hi⟩ ka
  simp only [List.mem_cons, List.not_mem_nil, or_false] at hm
  rcases hm with rfl | rfl | rfl | rfl | rfl
  · rw [fO_60_0 L] at hs; rw [fO_60_1 L] at hv
    exact ⟨0, by decide, rfl, (Option.some.inj hs).symm, (Option.some.inj hv).symm⟩
  · rw [fO_63_0 L] at hs; rw [fO_63_1 L] at hv
    exact ⟨1, by decide, rfl, (Option.some.inj hs).symm, (Option.some.inj hv).symm⟩
  · rw [fO_66_0 L] at hs; rw [fO_66_1 L] at hv
    exact ⟨2, by decide, rfl, (Option.some.inj hs).symm, (Option.some.inj hv).symm⟩
  · rw [fO_69_0 L] at hs; rw [fO_69_1 L] at hv
    exact ⟨3, by decide, rfl, (Option.some.inj hs).symm, (Option.some.inj hv).symm⟩
  · rw [fO_72_0 L] at hs; rw [fO_72_1 L] at hv
    exact ⟨4, by decide, rfl, (Option.some.inj hs).symm, (Option.some.inj hv).symm⟩
theorem th_d {ad : List Nat} {h : hp} (L : Lay TLx ad h) {j : Nat} (hj : j < 5) : b_R ad (Ad ad (61 + 3 * j)) = (-2147483648, 2147483647) := by
  rcases (show j = 0 ∨ j = 1 ∨ j = 2 ∨ j = 3 ∨ j = 4 by omega) with rfl | rfl | rfl | rfl | rfl <;> simp [b_R, Ad_eq L]
theorem th_dv {ad : List Nat} {h : hp} (L : Lay TLx ad h) {j : Nat} (hj : j < 5) : b_R ad (Ad ad (62 + 3 * j)) = (0, 2147483647) := by
  rcases (show j = 0 ∨ j = 1 ∨ j = 2 ∨ j = 3 ∨ j = 4 by omega) with rfl | rfl | rfl | rfl | rfl
  · exact br_62 L
  · exact br_65 L
  · exact br_68 L
  · exact br_71 L
  · exact br_74 L
theorem th_add {ad : List Nat} {h : hp} (L : Lay TLx ad h) {δ0 δ : dp} (I : CI ad h.1 δ0 δ) {a s v : Nat} (ka : q_K h.1 a = 8) (hs : q_O h.1 8 0 a = some s) (hv : q_O h.1 8 1 a = some v) {x1 x2 w : Int32} {l l2 : Nat} (tv : t_v x1 x2) (hl : (l : Int) = (q_I δ 8 2 a).toInt) (hl2 : l2 = l) (h5 : (q_I δ 8 2 a).toInt < 500) (hw : w.toInt = (q_I δ 8 2 a).toInt + 1) : CI ad h.1 δ0 (s_I (s_R (s_R δ s l x1) v l2 x2) 8 2 a w) := by
  subst hl2
  obtain ⟨j, hj, rfl, rfl, rfl⟩ := th_cell L ka hs hv
  have hb := I.b 2 ka
  have eb : b_I h.1 8 2 (Ad ad (60 + 3 * j)) = (0, 500) := by simp [b_I]
  rw [eb] at hb
  dsimp only at hb
  have hR : ∀ b i, q_R (s_I (s_R (s_R δ (Ad ad (61 + 3 * j)) l2 x1) (Ad ad (62 + 3 * j)) l2 x2) 8 2 (Ad ad (60 + 3 * j)) w) b i = if b = Ad ad (62 + 3 * j) ∧ i = l2 then x2 else if b = Ad ad (61 + 3 * j) ∧ i = l2 then x1 else q_R δ b i := by
    intro b i
    rw [qR_sI, qR_sR, qR_sR]
  refine ⟨fun c' k' a' hk => ?_, fun b i => ?_, fun j' hj' i hi => ?_, fun k' a' => ?_, fun i q1 q2 => ?_⟩
  · rw [qI_sI]
    by_cases e : c' = 8 ∧ k' = 2 ∧ a' = Ad ad (60 + 3 * j)
    · rw [if_pos e, e.1, e.2.1, e.2.2, eb]; exact ⟨by show (0 : Int) ≤ _; omega, by show _ ≤ (500 : Int); omega⟩
    · rw [if_neg e]; exact I.1 c' k' a' hk
  · rw [hR]
    by_cases e1 : b = Ad ad (62 + 3 * j) ∧ i = l2
    · rw [if_pos e1, e1.1, th_dv L hj]; exact ⟨tv.1, (ti_b _).2⟩
    · rw [if_neg e1]
      by_cases e2 : b = Ad ad (61 + 3 * j) ∧ i = l2
      · rw [if_pos e2, e2.1, th_d L hj]; exact ti_b _
      · rw [if_neg e2]; exact I.2.1 b i
  · rw [hR, hR]
    have n1 : ¬ (Ad ad (61 + 3 * j') = Ad ad (62 + 3 * j) ∧ i = l2) := fun z => by
      have := z.1
      rw [Ad_eq L _ _ (by omega) (by omega)] at this
      omega
    have n2 : ¬ (Ad ad (62 + 3 * j') = Ad ad (61 + 3 * j) ∧ i = l2) := fun z => by
      have := z.1
      rw [Ad_eq L _ _ (by omega) (by omega)] at this
      omega
    rw [if_neg n1, if_neg n2]
    rw [qI_sI] at hi
    by_cases e : j' = j
    · subst e
      rw [if_pos ⟨rfl, rfl, rfl⟩] at hi
      by_cases e2 : i = l2
      · rw [if_pos ⟨rfl, e2⟩, if_pos ⟨rfl, e2⟩]; exact tv
      · rw [if_neg (fun z => e2 z.2), if_neg (fun z => e2 z.2)]
        exact I.2.2.1 j' hj' i (by omega)
    · have n3 : ¬ (8 = 8 ∧ 2 = 2 ∧ Ad ad (60 + 3 * j') = Ad ad (60 + 3 * j)) := fun z => by
        have := z.2.2
        rw [Ad_eq L _ _ (by omega) (by omega)] at this
        omega
      have n4 : ¬ (Ad ad (61 + 3 * j') = Ad ad (61 + 3 * j) ∧ i = l2) := fun z => by
        have := z.1
        rw [Ad_eq L _ _ (by omega) (by omega)] at this
        omega
      have n5 : ¬ (Ad ad (62 + 3 * j') = Ad ad (62 + 3 * j) ∧ i = l2) := fun z => by
        have := z.1
        rw [Ad_eq L _ _ (by omega) (by omega)] at this
        omega
      rw [if_neg n3] at hi
      rw [if_neg n4, if_neg n5]
      exact I.2.2.1 j' hj' i hi
  · rw [rI_o (fun z => absurd z.1 (by decide))]; exact I.2.2.2.1 k' a'
  · funext x
    have m1 : ¬ (Ad ad i = Ad ad (62 + 3 * j) ∧ x = l2) := fun z => by
      have := z.1
      rw [Ad_eq L _ _ (by omega) (by omega)] at this
      omega
    have m2 : ¬ (Ad ad i = Ad ad (61 + 3 * j) ∧ x = l2) := fun z => by
      have := z.1
      rw [Ad_eq L _ _ (by omega) (by omega)] at this
      omega
    rw [hR, if_neg m1, if_neg m2, I.2.2.2.2 i q1 q2]
