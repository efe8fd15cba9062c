/-! the invariant over all calls -/
def pN : Nat := 10000000
theorem bI_12 {g : gp} {c k a : Nat} (hc : 12 ≤ c) : b_I g c k a = (-2147483648, 2147483647) := by
  unfold b_I
  repeat rw [if_neg (by omega)]
theorem bR_o {ad : List Nat} {b : Nat} (hn : ¬ ∃ j, j < 99 ∧ b = Ad ad j) : b_R ad b = (-2147483648, 2147483647) := by
  unfold b_R
  rw [if_neg (fun e => hn ⟨22, by decide, e⟩), if_neg (fun e => hn ⟨56, by decide, e⟩), if_neg (fun e => hn ⟨57, by decide, e⟩), if_neg (fun e => hn ⟨58, by decide, e⟩), if_neg (fun e => hn ⟨7, by decide, e⟩), if_neg (fun e => hn ⟨62, by decide, e⟩), if_neg (fun e => hn ⟨65, by decide, e⟩), if_neg (fun e => hn ⟨68, by decide, e⟩), if_neg (fun e => hn ⟨71, by decide, e⟩), if_neg (fun e => hn ⟨74, by decide, e⟩), if_neg (fun e => hn ⟨46, by decide, e⟩), if_neg (fun e => hn ⟨47, by decide, e⟩), if_neg (fun e => hn ⟨48, by decide, e⟩), if_neg (fun e => hn ⟨49, by decide, e⟩), if_neg (fun e => hn ⟨50, by decide, e⟩), if_neg (fun e => hn ⟨51, by decide, e⟩), if_neg (fun e => hn ⟨52, by decide, e⟩)]
theorem bQ_o {ad : List Nat} {b : Nat} (hn : ¬ ∃ j, 100 ≤ j ∧ j < 127 ∧ b = Ad ad j) : b_Q ad b = (-2147483648, 2147483647) := by
  unfold b_Q
  rw [if_neg (fun e => hn ⟨103, by decide, by decide, e⟩), if_neg (fun e => hn ⟨106, by decide, by decide, e⟩), if_neg (fun e => hn ⟨108, by decide, by decide, e⟩), if_neg (fun e => hn ⟨111, by decide, by decide, e⟩), if_neg (fun e => hn ⟨112, by decide, by decide, e⟩)]
/-- a call of the reference leaves the class as it was -/
theorem CI_re {ad : List Nat} {g : gp} {δ δ1 δ2 : dp} (I : CI ad g δ δ1) (J : RI ad g δ1 δ2) : CI ad g δ2 δ2 := by
  obtain ⟨i1, i2, i3, i4, i5⟩ := I
  obtain ⟨j1, j2, j3, j4, j5⟩ := J
  refine ⟨fun c k a hk => ?_, fun b i => ?_, fun j hj i hi => ?_, fun _ _ => rfl, fun _ _ _ => rfl⟩
  · by_cases hc : c < 12
    · rw [j3 c k a hc]; exact i1 c k a hk
    · rw [bI_12 (by omega)]; exact ti_b _
  · by_cases hn : ∃ j, j < 99 ∧ b = Ad ad j
    · obtain ⟨j, hj, e⟩ := hn
      rw [e, j4 j hj]; exact i2 _ i
    · rw [bR_o hn]; exact ti_b _
  · rw [j3 8 2 _ (by decide)] at hi
    rw [j4 (61 + 3 * j) (by omega), j4 (62 + 3 * j) (by omega)]
    exact i3 j hj i hi
/-- a call of the class leaves the reference as it was -/
theorem RI_re {ad : List Nat} {g : gp} {δ δ1 : dp} (I : RI ad g δ δ) (J : CI ad g δ δ1) : RI ad g δ1 δ1 := by
  obtain ⟨i1, i2, i3, i4, i5⟩ := I
  obtain ⟨j1, j2, j3, j4, j5⟩ := J
  refine ⟨fun k a hk => ?_, fun b i => ?_, fun _ _ _ _ => rfl, fun _ _ => rfl, rfl⟩
  · rw [j4 k a]; exact i1 k a hk
  · by_cases hn : ∃ j, 100 ≤ j ∧ j < 127 ∧ b = Ad ad j
    · obtain ⟨j, h1, h2, e⟩ := hn
      rw [e, j5 j (Or.inl h1) h2]; exact i2 _ i
    · rw [bQ_o hn]; exact ti_b _
theorem OI_re {ad : List Nat} {g : gp} {a0 : Nat} {δ δ1 : dp} (O : OI ad a0 δ) (J : CI ad g δ δ1) : OI ad a0 δ1 := by
  obtain ⟨j1, j2, j3, j4, j5⟩ := J
  have r : ∀ c, 100 ≤ c → c < 127 → q_R δ1 (Ad ad c) = q_R δ (Ad ad c) := fun c h1 h2 => j5 c (Or.inl h1) h2
  exact ⟨fun K hK => (bak_k (r 102 (by decide) (by decide)) (r 103 (by decide) (by decide))).o (j4 10 a0) hK (O.1 K hK), TH_k O.2.1 (j4 24 a0) (r 112 (by decide) (by decide)) (r 113 (by decide) (by decide)) (r 114 (by decide) (by decide)) (r 115 (by decide) (by decide)) (r 116 (by decide) (by decide)), O.2.2.c (j4 10 a0) (j4 18 a0) (r 107 (by decide) (by decide)) (r 108 (by decide) (by decide))⟩
def IV (ad : List Nat) (g : gp) (δ : dp) : Prop := CI ad g δ δ ∧ RI ad g δ δ ∧ OI ad (Ad ad 99) δ ∧ (q_I δ 7 1 (Ad ad 1)).toInt = (q_I δ 12 2 (Ad ad 99)).toInt
theorem IV_end {ad : List Nat} {g : gp} {δ δ1 δ2 : dp} (V : IV ad g δ) (C : CI ad g δ δ1) (R : RI ad g δ1 δ2) (O : OI ad (Ad ad 99) δ2) (e : (q_I δ1 7 1 (Ad ad 1)).toInt = (q_I δ2 12 2 (Ad ad 99)).toInt) : IV ad g δ2 := by
  refine ⟨CI_re C R, ?_, O, ?_⟩
  · obtain ⟨j1, j2, j3, j4, j5⟩ := R
    exact ⟨j1, j2, fun _ _ _ _ => rfl, fun _ _ => rfl, rfl⟩
  · rw [R.2.2.1 7 1 (Ad ad 1) (by decide)]; exact e
theorem its {c : Prop} [Decidable c] {P Q V : dp → Prop} (h1 : c → ∃ d, P d ∧ V d) (h2 : ¬ c → ∃ d, Q d ∧ V d) : ∃ d, (if c then P d else Q d) ∧ V d := by
  by_cases h : c
  · obtain ⟨d, a, b⟩ := h1 h
    exact ⟨d, by rw [if_pos h]; exact a, b⟩
  · obtain ⟨d, a, b⟩ := h2 h
    exact ⟨d, by rw [if_neg h]; exact a, b⟩
/-- a state in which nothing was done -/
def g9 : gp := (fun _ _ _ => none, fun _ _ => none, fun _ => 0, fun _ => 0)
theorem bI_g {g : gp} {c k a : Nat} (hn : ¬ (c = 3 ∧ k = 1)) : b_I g c k a = b_I g9 c k 0 := by
  unfold b_I
  rw [if_neg hn, if_neg hn]
theorem bI_k {g : gp} {c k a : Nat} (hk : 64 ≤ k) : b_I g c k a = (-2147483648, 2147483647) := by
  unfold b_I
  repeat rw [if_neg (by omega)]
def tv0 (i k : Nat) : Int32 := match TLx[i]? with | some c => c.2.2.2.getD k 0 | none => 0
theorem lay_I0 {ad : List Nat} {h : hp} (L : Lay TLx ad h) {i : Nat} (hi : i < 128) (hk : knd i < 13) (k : Nat) : q_I h.2 (knd i) k (Ad ad i) = tv0 i k := by
  have hl : i < TLx.length := hi
  have e : TLx[i]? = some TLx[i] := List.getElem?_eq_getElem hl
  have ek : knd i = (TLx[i]).1 := by unfold knd; rw [e]
  have ev : tv0 i k = (TLx[i]).2.2.2.getD k 0 := by unfold tv0; rw [e]
  rw [ek] at hk ⊢
  rw [ev]
  exact L.I (c := TLx[i]) e hk rfl
theorem lay_R0 {ad : List Nat} {h : hp} (L : Lay TLx ad h) {i : Nat} (hi : i < 128) (hk : 13 ≤ knd i) (hk2 : knd i < 16) (z : Nat) : q_R h.2 (Ad ad i) z = 0 := by
  have hl : i < TLx.length := hi
  have e : TLx[i]? = some TLx[i] := List.getElem?_eq_getElem hl
  have ek : knd i = (TLx[i]).1 := by unfold knd; rw [e]
  rw [ek] at hk hk2
  exact congrFun (L.R (c := TLx[i]) e hk hk2).1 z
def ck0 (i k : Nat) : Bool := if knd i = 3 ∧ k = 1 then decide ((tv0 i k).toInt = 0) else decide ((b_I g9 (knd i) k 0).1 ≤ (tv0 i k).toInt ∧ (tv0 i k).toInt ≤ (b_I g9 (knd i) k 0).2)
theorem ck0_all : ∀ i : Fin 128, ∀ k : Fin 64, ck0 i.val k.val = true := by decide +kernel
theorem ck1_all : ∀ k : Fin 64, (b12 k.val).1 ≤ (tv0 99 k.val).toInt ∧ (tv0 99 k.val).toInt ≤ (b12 k.val).2 := by decide +kernel
theorem knd_12 : ∀ i : Fin 128, knd i.val = 12 → i.val = 99 := by decide +kernel
theorem b12_k {k : Nat} (hk : 64 ≤ k) : b12 k = (-2147483648, 2147483647) := by
  unfold b12
  repeat rw [if_neg (by omega)]
theorem b_R0 {ad : List Nat} {h : hp} (L : Lay TLx ad h) (b i : Nat) : (b_R ad b).1 ≤ (q_R h.2 b i).toInt ∧ (q_R h.2 b i).toInt ≤ (b_R ad b).2 := by
  by_cases e22 : b = Ad ad 22
  · rw [e22, br_22 L, lay_R0 L (by decide) (by decide) (by decide)]; decide
  by_cases e56 : b = Ad ad 56
  · rw [e56, br_56 L, lay_R0 L (by decide) (by decide) (by decide)]; decide
  by_cases e57 : b = Ad ad 57
  · rw [e57, br_57 L, lay_R0 L (by decide) (by decide) (by decide)]; decide
  by_cases e58 : b = Ad ad 58
  · rw [e58, br_58 L, lay_R0 L (by decide) (by decide) (by decide)]; decide
  by_cases e7 : b = Ad ad 7
  · rw [e7, br_7 L, lay_R0 L (by decide) (by decide) (by decide)]; decide
  by_cases e62 : b = Ad ad 62
  · rw [e62, br_62 L, lay_R0 L (by decide) (by decide) (by decide)]; decide
  by_cases e65 : b = Ad ad 65
  · rw [e65, br_65 L, lay_R0 L (by decide) (by decide) (by decide)]; decide
  by_cases e68 : b = Ad ad 68
  · rw [e68, br_68 L, lay_R0 L (by decide) (by decide) (by decide)]; decide
  by_cases e71 : b = Ad ad 71
  · rw [e71, br_71 L, lay_R0 L (by decide) (by decide) (by decide)]; decide
  by_cases e74 : b = Ad ad 74
  · rw [e74, br_74 L, lay_R0 L (by decide) (by decide) (by decide)]; decide
  by_cases e46 : b = Ad ad 46
  · rw [e46, br_46 L, lay_R0 L (by decide) (by decide) (by decide)]; decide
  by_cases e47 : b = Ad ad 47
  · rw [e47, br_47 L, lay_R0 L (by decide) (by decide) (by decide)]; decide
  by_cases e48 : b = Ad ad 48
  · rw [e48, br_48 L, lay_R0 L (by decide) (by decide) (by decide)]; decide
  by_cases e49 : b = Ad ad 49
  · rw [e49, br_49 L, lay_R0 L (by decide) (by decide) (by decide)]; decide
  by_cases e50 : b = Ad ad 50
  · rw [e50, br_50 L, lay_R0 L (by decide) (by decide) (by decide)]; decide
  by_cases e51 : b = Ad ad 51
  · rw [e51, br_51 L, lay_R0 L (by decide) (by decide) (by decide)]; decide
  by_cases e52 : b = Ad ad 52
  · rw [e52, br_52 L, lay_R0 L (by decide) (by decide) (by decide)]; decide
  have : b_R ad b = (-2147483648, 2147483647) := by
    unfold b_R
    rw [if_neg e22, if_neg e56, if_neg e57, if_neg e58, if_neg e7, if_neg e62, if_neg e65, if_neg e68, if_neg e71, if_neg e74, if_neg e46, if_neg e47, if_neg e48, if_neg e49, if_neg e50, if_neg e51, if_neg e52]
  rw [this]; exact ti_b _
theorem b_Q0 {ad : List Nat} {h : hp} (L : Lay TLx ad h) (b i : Nat) : (b_Q ad b).1 ≤ (q_R h.2 b i).toInt ∧ (q_R h.2 b i).toInt ≤ (b_Q ad b).2 := by
  by_cases e103 : b = Ad ad 103
  · rw [e103, bq_103 L, lay_R0 L (by decide) (by decide) (by decide)]; decide
  by_cases e106 : b = Ad ad 106
  · rw [e106, bq_106 L, lay_R0 L (by decide) (by decide) (by decide)]; decide
  by_cases e108 : b = Ad ad 108
  · rw [e108, bq_108 L, lay_R0 L (by decide) (by decide) (by decide)]; decide
  by_cases e111 : b = Ad ad 111
  · rw [e111, bq_111 L, lay_R0 L (by decide) (by decide) (by decide)]; decide
  by_cases e112 : b = Ad ad 112
  · rw [e112, bq_112 L, lay_R0 L (by decide) (by decide) (by decide)]; decide
  have : b_Q ad b = (-2147483648, 2147483647) := by
    unfold b_Q
    rw [if_neg e103, if_neg e106, if_neg e108, if_neg e111, if_neg e112]
  rw [this]; exact ti_b _
theorem IV_0 {ad : List Nat} {h : hp} (L : Lay TLx ad h) : IV ad h.1 h.2 := by
  have z0 : (0 : Int32).toInt = 0 := rfl
  refine ⟨⟨fun c k a hk => ?_, fun b i => b_R0 L b i, fun j hj i hi => ?_, fun _ _ => rfl, fun _ _ _ => rfl⟩, ⟨fun k a hk => ?_, fun b i => b_Q0 L b i, fun _ _ _ _ => rfl, fun _ _ => rfl, rfl⟩, ⟨fun K hK => HK.k ?_, fun t ht => ?_, fun j hj => ?_⟩, ?_⟩
  · by_cases hc : c < 12
    · obtain ⟨i, hi, rfl⟩ := lay_cel L (by rw [hk]; omega)
      rw [lay_knd L hi] at hk
      subst hk
      rw [lay_I0 L hi (by omega)]
      by_cases k64 : k < 64
      · have H := ck0_all ⟨i, hi⟩ ⟨k, k64⟩
        dsimp only at H
        unfold ck0 at H
        by_cases c31 : knd i = 3 ∧ k = 1
        · rw [if_pos c31] at H
          have H1 := of_decide_eq_true H
          unfold b_I
          rw [if_pos c31, H1]
          refine ⟨Int.le_refl _, ?_⟩
          show (0 : Int) ≤ (match q_O h.1 3 0 (Ad ad i) with | some b => (q_N h.1 b : Int) | none => 0)
          split
          · exact Int.natCast_nonneg _
          · exact Int.le_refl _
        · rw [if_neg c31] at H
          rw [bI_g c31]
          exact of_decide_eq_true H
      · rw [bI_k (by omega)]; exact ti_b _
    · rw [bI_12 (by omega)]; exact ti_b _
  · exfalso
    have H : ∀ j : Fin 5, knd (60 + 3 * j.val) = 8 ∧ tv0 (60 + 3 * j.val) 2 = 0 := by decide +kernel
    obtain ⟨h1, h2⟩ := H ⟨j, hj⟩
    have h3 := lay_I0 L (i := 60 + 3 * j) (by omega) (by dsimp only at h1; omega) 2
    dsimp only at h1 h2
    rw [h1, h2] at h3
    rw [h3] at hi
    omega
  · obtain ⟨i, hi, rfl⟩ := lay_cel L (by rw [hk]; decide)
    rw [lay_knd L hi] at hk
    obtain rfl : i = 99 := knd_12 ⟨i, hi⟩ hk
    have e := lay_I0 L (i := 99) (by decide) (by decide) k
    rw [show knd 99 = 12 by decide] at e
    rw [e]
    by_cases k64 : k < 64
    · exact ck1_all ⟨k, k64⟩
    · rw [b12_k (by omega)]; exact ti_b _
  · have e : (q_R h.2 (Ad ad 103) K).toInt = 0 := by rw [fR_103 L]; rfl
    exact ⟨by omega, fun i j _ hj => by omega, fun i hi => by omega⟩
  · exfalso
    unfold tN at ht
    rw [fI_99_24 L] at ht
    have e0 : (0 : Int32).toInt.toNat = 0 := rfl
    omega
  · exfalso
    rw [fI_99_18 L] at hj
    omega
  · rw [fI_1_1 L, fI_99_2 L]
