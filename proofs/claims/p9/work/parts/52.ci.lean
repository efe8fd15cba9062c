/-! what the class keeps (by gen_ci.py) -/
/-- a row of the class that may hold anything -/
def wb (ad : List Nat) (b : Nat) : Prop := ∃ i : Nat, i < 99 ∧ i ∉ [2, 7, 22, 46, 47, 48, 49, 50, 51, 52, 56, 57, 58, 61, 62, 64, 65, 67, 68, 70, 71, 73, 74] ∧ b = Ad ad i
def b_I (g : gp) (c k a : Nat) : Int × Int := if c = 3 ∧ k = 1 then (0, match q_O g 3 0 a with | some b => (q_N g b : Int) | none => 0) else if c = 2 ∧ k = 4 then (0, 1000) else if c = 4 ∧ k = 5 then (0, 32) else if c = 5 ∧ k = 0 then (2, 16) else if c = 5 ∧ k = 1 then (0, 1) else if c = 5 ∧ k = 2 then (1, 5) else if c = 7 ∧ k = 1 then (0, 500) else if c = 7 ∧ k = 2 then (0, 500) else if c = 7 ∧ k = 3 then (0, 500) else if c = 7 ∧ k = 4 then (0, 500) else if c = 8 ∧ k = 2 then (0, 500) else if c = 9 ∧ k = 4 then (0, 3) else if c = 11 ∧ k = 5 then (0, 4) else if c = 11 ∧ k = 12 then (0, 3) else if c = 1 ∧ k = 15 then (0, 1) else if c = 4 ∧ k = 9 then (0, 1) else if c = 4 ∧ k = 16 then (0, 1) else if c = 6 ∧ k = 1 then (0, 1) else if c = 8 ∧ k = 3 then (0, 1) else if c = 0 ∧ k = 4 then (0, 1) else if c = 4 ∧ k = 6 then (0, 500) else (-2147483648, 2147483647)
def b_R (ad : List Nat) (b : Nat) : Int × Int := if b = Ad ad 22 then (0, 17) else if b = Ad ad 56 then (0, 1000) else if b = Ad ad 57 then (0, 1000) else if b = Ad ad 58 then (0, 1000) else if b = Ad ad 7 then (0, 500) else if b = Ad ad 62 then (0, 2147483647) else if b = Ad ad 65 then (0, 2147483647) else if b = Ad ad 68 then (0, 2147483647) else if b = Ad ad 71 then (0, 2147483647) else if b = Ad ad 74 then (0, 2147483647) else if b = Ad ad 46 then (0, 0) else if b = Ad ad 47 then (0, 65) else if b = Ad ad 48 then (0, 130) else if b = Ad ad 49 then (0, 195) else if b = Ad ad 50 then (0, 260) else if b = Ad ad 51 then (0, 325) else if b = Ad ad 52 then (0, 390) else (-2147483648, 2147483647)
/-- a small step of a THIEF -/
def t_v (s v : Int32) : Prop := 0 ≤ v.toInt ∧ (s = 1 → v.toInt < 4) ∧ (s = 11 → v.toInt < 500)
def CI (ad : List Nat) (g : gp) (δ0 δ : dp) : Prop := (∀ c k a, q_K g a = c → (b_I g c k a).1 ≤ (q_I δ c k a).toInt ∧ (q_I δ c k a).toInt ≤ (b_I g c k a).2) ∧ (∀ b i, (b_R ad b).1 ≤ (q_R δ b i).toInt ∧ (q_R δ b i).toInt ≤ (b_R ad b).2) ∧ (∀ j, j < 5 → ∀ i : Nat, (i : Int) < (q_I δ 8 2 (Ad ad (60 + 3 * j))).toInt → t_v (q_R δ (Ad ad (61 + 3 * j)) i) (q_R δ (Ad ad (62 + 3 * j)) i)) ∧ (∀ k a, q_I δ 12 k a = q_I δ0 12 k a) ∧ ∀ i, (100 ≤ i ∨ i = 2) → i < 127 → q_R δ (Ad ad i) = q_R δ0 (Ad ad i)
theorem CI.b {ad : List Nat} {g : gp} {δ0 δ : dp} (I : CI ad g δ0 δ) {c a : Nat} (k : Nat) (h : q_K g a = c) : (b_I g c k a).1 ≤ (q_I δ c k a).toInt ∧ (q_I δ c k a).toInt ≤ (b_I g c k a).2 := I.1 c k a h
theorem lay_cel {ad : List Nat} {h : hp} (L : Lay TLx ad h) {a : Nat} (k : q_K h.1 a ≠ 99) : ∃ i, i < 128 ∧ a = Ad ad i := by
  have ha : a ∈ ad := Classical.byContradiction fun c => k (L.2.2.1 a c)
  obtain ⟨i, hi⟩ := List.getElem?_of_mem ha
  have hl := (List.getElem?_eq_some_iff.mp hi).1
  exact ⟨i, by rw [L.1] at hl; exact hl, (Ad_at hi).symm⟩
def knd (i : Nat) : Nat := match TLx[i]? with | some c => c.1 | none => 99
theorem lay_knd {ad : List Nat} {h : hp} (L : Lay TLx ad h) {i : Nat} (hi : i < 128) : q_K h.1 (Ad ad i) = knd i := by
  have hl : i < TLx.length := hi
  have e : TLx[i]? = some TLx[i] := List.getElem?_eq_getElem hl
  have := (L.c (c := TLx[i]) e).1
  rw [this]
  unfold knd
  rw [e]
theorem CI.sI {ad : List Nat} {h : hp} (L : Lay TLx ad h) {δ0 δ : dp} (I : CI ad h.1 δ0 δ) {c k a : Nat} {v : Int32} (hc : c ≠ 12) (ht : ¬ (c = 8 ∧ k = 2)) (h1 : (b_I h.1 c k a).1 ≤ v.toInt) (h2 : v.toInt ≤ (b_I h.1 c k a).2) : CI ad h.1 δ0 (s_I δ c k a v) := by
  refine ⟨fun c' k' a' hk => ?_, fun b i => I.2.1 b i, fun j hj i hi => ?_, fun k' a' => ?_, fun i q1 q2 => I.2.2.2.2 i q1 q2⟩
  · rw [qI_sI]
    by_cases e : c' = c ∧ k' = k ∧ a' = a
    · rw [if_pos e, e.1, e.2.1, e.2.2]; exact ⟨h1, h2⟩
    · rw [if_neg e]; exact I.1 c' k' a' hk
  · rw [rI_o (fun z => ht ⟨z.1.symm, z.2.symm⟩)] at hi
    exact I.2.2.1 j hj i hi
  · rw [rI_o (fun z => hc z.1.symm)]; exact I.2.2.2.1 k' a'
theorem wb.ne {ad : List Nat} {h : hp} (L : Lay TLx ad h) {b i : Nat} (w : wb ad b) (hi : i < 128) (hs : 99 ≤ i ∨ i ∈ [2, 7, 22, 46, 47, 48, 49, 50, 51, 52, 56, 57, 58, 61, 62, 64, 65, 67, 68, 70, 71, 73, 74]) : Ad ad i ≠ b := by
  obtain ⟨j, h1, h2, rfl⟩ := w
  intro e
  rw [Ad_eq L i j hi (by omega)] at e
  subst e
  rcases hs with hs | hs
  · omega
  · exact h2 hs
theorem wb.d {ad : List Nat} {h : hp} (L : Lay TLx ad h) {b : Nat} (w : wb ad b) : b_R ad b = (-2147483648, 2147483647) := by
  unfold b_R
  rw [if_neg (fun e => w.ne L (i := 22) (by decide) (by decide) e.symm)]
  rw [if_neg (fun e => w.ne L (i := 56) (by decide) (by decide) e.symm)]
  rw [if_neg (fun e => w.ne L (i := 57) (by decide) (by decide) e.symm)]
  rw [if_neg (fun e => w.ne L (i := 58) (by decide) (by decide) e.symm)]
  rw [if_neg (fun e => w.ne L (i := 7) (by decide) (by decide) e.symm)]
  rw [if_neg (fun e => w.ne L (i := 62) (by decide) (by decide) e.symm)]
  rw [if_neg (fun e => w.ne L (i := 65) (by decide) (by decide) e.symm)]
  rw [if_neg (fun e => w.ne L (i := 68) (by decide) (by decide) e.symm)]
  rw [if_neg (fun e => w.ne L (i := 71) (by decide) (by decide) e.symm)]
  rw [if_neg (fun e => w.ne L (i := 74) (by decide) (by decide) e.symm)]
  rw [if_neg (fun e => w.ne L (i := 46) (by decide) (by decide) e.symm)]
  rw [if_neg (fun e => w.ne L (i := 47) (by decide) (by decide) e.symm)]
  rw [if_neg (fun e => w.ne L (i := 48) (by decide) (by decide) e.symm)]
  rw [if_neg (fun e => w.ne L (i := 49) (by decide) (by decide) e.symm)]
  rw [if_neg (fun e => w.ne L (i := 50) (by decide) (by decide) e.symm)]
  rw [if_neg (fun e => w.ne L (i := 51) (by decide) (by decide) e.symm)]
  rw [if_neg (fun e => w.ne L (i := 52) (by decide) (by decide) e.symm)]
theorem rR_o {δ : dp} {b b' i : Nat} {v : Int32} (h : b' ≠ b) : q_R (s_R δ b i v) b' = q_R δ b' := by
  funext j
  rw [qR_sR, if_neg (fun z => h z.1)]
theorem CI.R {ad : List Nat} {h : hp} (L : Lay TLx ad h) {δ0 δ δ1 : dp} (I : CI ad h.1 δ0 δ) {b : Nat} (w : wb ad b) (hI : q_I δ1 = q_I δ) (hR : ∀ b', b' ≠ b → q_R δ1 b' = q_R δ b') : CI ad h.1 δ0 δ1 := by
  refine ⟨fun c' k' a' hk => by rw [hI]; exact I.1 c' k' a' hk, fun b' i => ?_, fun j hj i hi => ?_, fun k' a' => by rw [hI]; exact I.2.2.2.1 k' a', fun i q1 q2 => ?_⟩
  · by_cases e : b' = b
    · subst e; rw [w.d L]; exact ti_b _
    · rw [hR _ e]; exact I.2.1 b' i
  · rw [hI] at hi
    have hm : 61 + 3 * j ∈ [2, 7, 22, 46, 47, 48, 49, 50, 51, 52, 56, 57, 58, 61, 62, 64, 65, 67, 68, 70, 71, 73, 74] ∧ 62 + 3 * j ∈ [2, 7, 22, 46, 47, 48, 49, 50, 51, 52, 56, 57, 58, 61, 62, 64, 65, 67, 68, 70, 71, 73, 74] := by
      rcases (show j = 0 ∨ j = 1 ∨ j = 2 ∨ j = 3 ∨ j = 4 by omega) with rfl | rfl | rfl | rfl | rfl <;> decide
    rw [hR _ (w.ne L (by omega) (Or.inr hm.1)), hR _ (w.ne L (by omega) (Or.inr hm.2))]
    exact I.2.2.1 j hj i hi
  · rw [hR _ (w.ne L (by omega) (by rcases q1 with q1 | q1; exact Or.inl (by omega); subst q1; exact Or.inr (by decide)))]; exact I.2.2.2.2 i q1 q2
theorem CI.sR {ad : List Nat} {h : hp} (L : Lay TLx ad h) {δ0 δ : dp} (I : CI ad h.1 δ0 δ) {b i : Nat} {v : Int32} (w : wb ad b) : CI ad h.1 δ0 (s_R δ b i v) := I.R L w rfl (fun _ e => rR_o e)
theorem CI.sC {ad : List Nat} {h : hp} (L : Lay TLx ad h) {δ0 δ : dp} (I : CI ad h.1 δ0 δ) {a b i j n : Nat} (w : wb ad b) : CI ad h.1 δ0 (s_C δ a b i j n) := I.R L w rfl (fun b' e => va_up_ne _ _ e)
theorem CI.sJ {ad : List Nat} {g : gp} {δ0 δ : dp} (I : CI ad g δ0 δ) {a i : Nat} {v : Int64} : CI ad g δ0 (s_J δ a i v) := I
theorem CI.sV {ad : List Nat} {g : gp} {δ0 δ : dp} (I : CI ad g δ0 δ) {c k a : Nat} {v : Option Nat} : CI ad g δ0 (s_V δ c k a v) := I
theorem gO_0_0 {ad : List Nat} {h : hp} (L : Lay TLx ad h) {a : Nat} (ka : q_K h.1 a = 0) : ∃ b, q_O h.1 0 0 a = some b ∧ q_K h.1 b = 5 := by
  obtain ⟨i, hi, rfl⟩ := lay_cel L (by rw [ka]; decide)
  rw [lay_knd L hi] at ka
  have H : ∀ i : Fin 128, knd i.val = 0 → i.val ∈ [42] := by decide +kernel
  have hm := H ⟨i, hi⟩ ka
  simp only [List.mem_cons, List.not_mem_nil, or_false] at hm
  rcases hm with rfl
  · exact ⟨_, fO_42_0 L, (lay_knd L (by decide)).trans (by decide)⟩
theorem gO_0_1 {ad : List Nat} {h : hp} (L : Lay TLx ad h) {a : Nat} (ka : q_K h.1 a = 0) : ∃ b, q_O h.1 0 1 a = some b ∧ q_K h.1 b = 3 := by
  obtain ⟨i, hi, rfl⟩ := lay_cel L (by rw [ka]; decide)
  rw [lay_knd L hi] at ka
  have H : ∀ i : Fin 128, knd i.val = 0 → i.val ∈ [42] := by decide +kernel
  have hm := H ⟨i, hi⟩ ka
  simp only [List.mem_cons, List.not_mem_nil, or_false] at hm
  rcases hm with rfl
  · exact ⟨_, fO_42_1 L, (lay_knd L (by decide)).trans (by decide)⟩
theorem gO_0_2 {ad : List Nat} {h : hp} (L : Lay TLx ad h) {a : Nat} (ka : q_K h.1 a = 0) : ∃ b, q_O h.1 0 2 a = some b ∧ q_K h.1 b = 1 := by
  obtain ⟨i, hi, rfl⟩ := lay_cel L (by rw [ka]; decide)
  rw [lay_knd L hi] at ka
  have H : ∀ i : Fin 128, knd i.val = 0 → i.val ∈ [42] := by decide +kernel
  have hm := H ⟨i, hi⟩ ka
  simp only [List.mem_cons, List.not_mem_nil, or_false] at hm
  rcases hm with rfl
  · exact ⟨_, fO_42_2 L, (lay_knd L (by decide)).trans (by decide)⟩
theorem gO_0_3 {ad : List Nat} {h : hp} (L : Lay TLx ad h) {a : Nat} (ka : q_K h.1 a = 0) : ∃ b, q_O h.1 0 3 a = some b ∧ q_K h.1 b = 18 ∧ q_N h.1 b = 7 ∧ wb ad b := by
  obtain ⟨i, hi, rfl⟩ := lay_cel L (by rw [ka]; decide)
  rw [lay_knd L hi] at ka
  have H : ∀ i : Fin 128, knd i.val = 0 → i.val ∈ [42] := by decide +kernel
  have hm := H ⟨i, hi⟩ ka
  simp only [List.mem_cons, List.not_mem_nil, or_false] at hm
  rcases hm with rfl
  · exact ⟨_, fO_42_3 L, (lay_knd L (by decide)).trans (by decide), fN_45 L, ⟨45, by decide, by decide, rfl⟩⟩
theorem gO_0_5 {ad : List Nat} {h : hp} (L : Lay TLx ad h) {a : Nat} (ka : q_K h.1 a = 0) : ∃ b, q_O h.1 0 5 a = some b ∧ q_K h.1 b = 13 ∧ q_N h.1 b = 7 ∧ wb ad b := by
  obtain ⟨i, hi, rfl⟩ := lay_cel L (by rw [ka]; decide)
  rw [lay_knd L hi] at ka
  have H : ∀ i : Fin 128, knd i.val = 0 → i.val ∈ [42] := by decide +kernel
  have hm := H ⟨i, hi⟩ ka
  simp only [List.mem_cons, List.not_mem_nil, or_false] at hm
  rcases hm with rfl
  · exact ⟨_, fO_42_5 L, (lay_knd L (by decide)).trans (by decide), fN_53 L, ⟨53, by decide, by decide, rfl⟩⟩
theorem gO_1_0 {ad : List Nat} {h : hp} (L : Lay TLx ad h) {a : Nat} (ka : q_K h.1 a = 1) : ∃ b, q_O h.1 1 0 a = some b ∧ q_K h.1 b = 5 := by
  obtain ⟨i, hi, rfl⟩ := lay_cel L (by rw [ka]; decide)
  rw [lay_knd L hi] at ka
  have H : ∀ i : Fin 128, knd i.val = 1 → i.val ∈ [18, 41, 54, 80, 86, 92, 98] := by decide +kernel
  have hm := H ⟨i, hi⟩ ka
  simp only [List.mem_cons, List.not_mem_nil, or_false] at hm
  rcases hm with rfl | rfl | rfl | rfl | rfl | rfl | rfl
  · exact ⟨_, fO_18_0 L, (lay_knd L (by decide)).trans (by decide)⟩
  · exact ⟨_, fO_41_0 L, (lay_knd L (by decide)).trans (by decide)⟩
  · exact ⟨_, fO_54_0 L, (lay_knd L (by decide)).trans (by decide)⟩
  · exact ⟨_, fO_80_0 L, (lay_knd L (by decide)).trans (by decide)⟩
  · exact ⟨_, fO_86_0 L, (lay_knd L (by decide)).trans (by decide)⟩
  · exact ⟨_, fO_92_0 L, (lay_knd L (by decide)).trans (by decide)⟩
  · exact ⟨_, fO_98_0 L, (lay_knd L (by decide)).trans (by decide)⟩
theorem gO_1_1 {ad : List Nat} {h : hp} (L : Lay TLx ad h) {a : Nat} (ka : q_K h.1 a = 1) : ∃ b, q_O h.1 1 1 a = some b ∧ q_K h.1 b = 3 := by
  obtain ⟨i, hi, rfl⟩ := lay_cel L (by rw [ka]; decide)
  rw [lay_knd L hi] at ka
  have H : ∀ i : Fin 128, knd i.val = 1 → i.val ∈ [18, 41, 54, 80, 86, 92, 98] := by decide +kernel
  have hm := H ⟨i, hi⟩ ka
  simp only [List.mem_cons, List.not_mem_nil, or_false] at hm
  rcases hm with rfl | rfl | rfl | rfl | rfl | rfl | rfl
  · exact ⟨_, fO_18_1 L, (lay_knd L (by decide)).trans (by decide)⟩
  · exact ⟨_, fO_41_1 L, (lay_knd L (by decide)).trans (by decide)⟩
  · exact ⟨_, fO_54_1 L, (lay_knd L (by decide)).trans (by decide)⟩
  · exact ⟨_, fO_80_1 L, (lay_knd L (by decide)).trans (by decide)⟩
  · exact ⟨_, fO_86_1 L, (lay_knd L (by decide)).trans (by decide)⟩
  · exact ⟨_, fO_92_1 L, (lay_knd L (by decide)).trans (by decide)⟩
  · exact ⟨_, fO_98_1 L, (lay_knd L (by decide)).trans (by decide)⟩
theorem gO_1_2 {ad : List Nat} {h : hp} (L : Lay TLx ad h) {a : Nat} (ka : q_K h.1 a = 1) : ∃ b, q_O h.1 1 2 a = some b ∧ q_K h.1 b = 13 ∧ (6 ≤ q_N h.1 b ∧ q_N h.1 b ≤ 2000) ∧ wb ad b := by
  obtain ⟨i, hi, rfl⟩ := lay_cel L (by rw [ka]; decide)
  rw [lay_knd L hi] at ka
  have H : ∀ i : Fin 128, knd i.val = 1 → i.val ∈ [18, 41, 54, 80, 86, 92, 98] := by decide +kernel
  have hm := H ⟨i, hi⟩ ka
  simp only [List.mem_cons, List.not_mem_nil, or_false] at hm
  rcases hm with rfl | rfl | rfl | rfl | rfl | rfl | rfl
  · exact ⟨_, fO_18_2 L, (lay_knd L (by decide)).trans (by decide), ⟨by rw [fN_15 L]; decide, by rw [fN_15 L]; decide⟩, ⟨15, by decide, by decide, rfl⟩⟩
  · exact ⟨_, fO_41_2 L, (lay_knd L (by decide)).trans (by decide), ⟨by rw [fN_21 L]; decide, by rw [fN_21 L]; decide⟩, ⟨21, by decide, by decide, rfl⟩⟩
  · exact ⟨_, fO_54_2 L, (lay_knd L (by decide)).trans (by decide), ⟨by rw [fN_44 L]; decide, by rw [fN_44 L]; decide⟩, ⟨44, by decide, by decide, rfl⟩⟩
  · exact ⟨_, fO_80_2 L, (lay_knd L (by decide)).trans (by decide), ⟨by rw [fN_77 L]; decide, by rw [fN_77 L]; decide⟩, ⟨77, by decide, by decide, rfl⟩⟩
  · exact ⟨_, fO_86_2 L, (lay_knd L (by decide)).trans (by decide), ⟨by rw [fN_83 L]; decide, by rw [fN_83 L]; decide⟩, ⟨83, by decide, by decide, rfl⟩⟩
  · exact ⟨_, fO_92_2 L, (lay_knd L (by decide)).trans (by decide), ⟨by rw [fN_89 L]; decide, by rw [fN_89 L]; decide⟩, ⟨89, by decide, by decide, rfl⟩⟩
  · exact ⟨_, fO_98_2 L, (lay_knd L (by decide)).trans (by decide), ⟨by rw [fN_95 L]; decide, by rw [fN_95 L]; decide⟩, ⟨95, by decide, by decide, rfl⟩⟩
theorem gO_2_0 {ad : List Nat} {h : hp} (L : Lay TLx ad h) {a : Nat} (ka : q_K h.1 a = 2) : ∃ b, q_O h.1 2 0 a = some b ∧ q_K h.1 b = 3 := by
  obtain ⟨i, hi, rfl⟩ := lay_cel L (by rw [ka]; decide)
  rw [lay_knd L hi] at ka
  have H : ∀ i : Fin 128, knd i.val = 2 → i.val ∈ [75, 81, 87, 93] := by decide +kernel
  have hm := H ⟨i, hi⟩ ka
  simp only [List.mem_cons, List.not_mem_nil, or_false] at hm
  rcases hm with rfl | rfl | rfl | rfl
  · exact ⟨_, fO_75_0 L, (lay_knd L (by decide)).trans (by decide)⟩
  · exact ⟨_, fO_81_0 L, (lay_knd L (by decide)).trans (by decide)⟩
  · exact ⟨_, fO_87_0 L, (lay_knd L (by decide)).trans (by decide)⟩
  · exact ⟨_, fO_93_0 L, (lay_knd L (by decide)).trans (by decide)⟩
theorem gO_2_1 {ad : List Nat} {h : hp} (L : Lay TLx ad h) {a : Nat} (ka : q_K h.1 a = 2) : ∃ b, q_O h.1 2 1 a = some b ∧ q_K h.1 b = 1 := by
  obtain ⟨i, hi, rfl⟩ := lay_cel L (by rw [ka]; decide)
  rw [lay_knd L hi] at ka
  have H : ∀ i : Fin 128, knd i.val = 2 → i.val ∈ [75, 81, 87, 93] := by decide +kernel
  have hm := H ⟨i, hi⟩ ka
  simp only [List.mem_cons, List.not_mem_nil, or_false] at hm
  rcases hm with rfl | rfl | rfl | rfl
  · exact ⟨_, fO_75_1 L, (lay_knd L (by decide)).trans (by decide)⟩
  · exact ⟨_, fO_81_1 L, (lay_knd L (by decide)).trans (by decide)⟩
  · exact ⟨_, fO_87_1 L, (lay_knd L (by decide)).trans (by decide)⟩
  · exact ⟨_, fO_93_1 L, (lay_knd L (by decide)).trans (by decide)⟩
theorem gO_2_2 {ad : List Nat} {h : hp} (L : Lay TLx ad h) {a : Nat} (ka : q_K h.1 a = 2) : ∃ b, q_O h.1 2 2 a = some b ∧ q_K h.1 b = 13 ∧ q_N h.1 b = 1000 ∧ wb ad b := by
  obtain ⟨i, hi, rfl⟩ := lay_cel L (by rw [ka]; decide)
  rw [lay_knd L hi] at ka
  have H : ∀ i : Fin 128, knd i.val = 2 → i.val ∈ [75, 81, 87, 93] := by decide +kernel
  have hm := H ⟨i, hi⟩ ka
  simp only [List.mem_cons, List.not_mem_nil, or_false] at hm
  rcases hm with rfl | rfl | rfl | rfl
  · exact ⟨_, fO_75_2 L, (lay_knd L (by decide)).trans (by decide), fN_78 L, ⟨78, by decide, by decide, rfl⟩⟩
  · exact ⟨_, fO_81_2 L, (lay_knd L (by decide)).trans (by decide), fN_84 L, ⟨84, by decide, by decide, rfl⟩⟩
  · exact ⟨_, fO_87_2 L, (lay_knd L (by decide)).trans (by decide), fN_90 L, ⟨90, by decide, by decide, rfl⟩⟩
  · exact ⟨_, fO_93_2 L, (lay_knd L (by decide)).trans (by decide), fN_96 L, ⟨96, by decide, by decide, rfl⟩⟩
theorem gO_2_3 {ad : List Nat} {h : hp} (L : Lay TLx ad h) {a : Nat} (ka : q_K h.1 a = 2) : ∃ b, q_O h.1 2 3 a = some b ∧ q_K h.1 b = 13 ∧ q_N h.1 b = 1000 ∧ wb ad b := by
  obtain ⟨i, hi, rfl⟩ := lay_cel L (by rw [ka]; decide)
  rw [lay_knd L hi] at ka
  have H : ∀ i : Fin 128, knd i.val = 2 → i.val ∈ [75, 81, 87, 93] := by decide +kernel
  have hm := H ⟨i, hi⟩ ka
  simp only [List.mem_cons, List.not_mem_nil, or_false] at hm
  rcases hm with rfl | rfl | rfl | rfl
  · exact ⟨_, fO_75_3 L, (lay_knd L (by decide)).trans (by decide), fN_79 L, ⟨79, by decide, by decide, rfl⟩⟩
  · exact ⟨_, fO_81_3 L, (lay_knd L (by decide)).trans (by decide), fN_85 L, ⟨85, by decide, by decide, rfl⟩⟩
  · exact ⟨_, fO_87_3 L, (lay_knd L (by decide)).trans (by decide), fN_91 L, ⟨91, by decide, by decide, rfl⟩⟩
  · exact ⟨_, fO_93_3 L, (lay_knd L (by decide)).trans (by decide), fN_97 L, ⟨97, by decide, by decide, rfl⟩⟩
theorem gO_3_0 {ad : List Nat} {h : hp} (L : Lay TLx ad h) {a : Nat} (ka : q_K h.1 a = 3) : ∃ b, q_O h.1 3 0 a = some b ∧ q_K h.1 b = 13 ∧ (6 ≤ q_N h.1 b ∧ q_N h.1 b ≤ 2000) ∧ wb ad b := by
  obtain ⟨i, hi, rfl⟩ := lay_cel L (by rw [ka]; decide)
  rw [lay_knd L hi] at ka
  have H : ∀ i : Fin 128, knd i.val = 3 → i.val ∈ [11, 14, 20, 43, 76, 82, 88, 94] := by decide +kernel
  have hm := H ⟨i, hi⟩ ka
  simp only [List.mem_cons, List.not_mem_nil, or_false] at hm
  rcases hm with rfl | rfl | rfl | rfl | rfl | rfl | rfl | rfl
  · exact ⟨_, fO_11_0 L, (lay_knd L (by decide)).trans (by decide), ⟨by rw [fN_12 L]; decide, by rw [fN_12 L]; decide⟩, ⟨12, by decide, by decide, rfl⟩⟩
  · exact ⟨_, fO_14_0 L, (lay_knd L (by decide)).trans (by decide), ⟨by rw [fN_15 L]; decide, by rw [fN_15 L]; decide⟩, ⟨15, by decide, by decide, rfl⟩⟩
  · exact ⟨_, fO_20_0 L, (lay_knd L (by decide)).trans (by decide), ⟨by rw [fN_21 L]; decide, by rw [fN_21 L]; decide⟩, ⟨21, by decide, by decide, rfl⟩⟩
  · exact ⟨_, fO_43_0 L, (lay_knd L (by decide)).trans (by decide), ⟨by rw [fN_44 L]; decide, by rw [fN_44 L]; decide⟩, ⟨44, by decide, by decide, rfl⟩⟩
  · exact ⟨_, fO_76_0 L, (lay_knd L (by decide)).trans (by decide), ⟨by rw [fN_77 L]; decide, by rw [fN_77 L]; decide⟩, ⟨77, by decide, by decide, rfl⟩⟩
  · exact ⟨_, fO_82_0 L, (lay_knd L (by decide)).trans (by decide), ⟨by rw [fN_83 L]; decide, by rw [fN_83 L]; decide⟩, ⟨83, by decide, by decide, rfl⟩⟩
  · exact ⟨_, fO_88_0 L, (lay_knd L (by decide)).trans (by decide), ⟨by rw [fN_89 L]; decide, by rw [fN_89 L]; decide⟩, ⟨89, by decide, by decide, rfl⟩⟩
  · exact ⟨_, fO_94_0 L, (lay_knd L (by decide)).trans (by decide), ⟨by rw [fN_95 L]; decide, by rw [fN_95 L]; decide⟩, ⟨95, by decide, by decide, rfl⟩⟩
theorem gO_4_0 {ad : List Nat} {h : hp} (L : Lay TLx ad h) {a : Nat} (ka : q_K h.1 a = 4) : ∃ b, q_O h.1 4 0 a = some b ∧ q_K h.1 b = 5 := by
  obtain ⟨i, hi, rfl⟩ := lay_cel L (by rw [ka]; decide)
  rw [lay_knd L hi] at ka
  have H : ∀ i : Fin 128, knd i.val = 4 → i.val ∈ [13] := by decide +kernel
  have hm := H ⟨i, hi⟩ ka
  simp only [List.mem_cons, List.not_mem_nil, or_false] at hm
  rcases hm with rfl
  · exact ⟨_, fO_13_0 L, (lay_knd L (by decide)).trans (by decide)⟩
theorem gO_4_1 {ad : List Nat} {h : hp} (L : Lay TLx ad h) {a : Nat} (ka : q_K h.1 a = 4) : ∃ b, q_O h.1 4 1 a = some b ∧ q_K h.1 b = 3 := by
  obtain ⟨i, hi, rfl⟩ := lay_cel L (by rw [ka]; decide)
  rw [lay_knd L hi] at ka
  have H : ∀ i : Fin 128, knd i.val = 4 → i.val ∈ [13] := by decide +kernel
  have hm := H ⟨i, hi⟩ ka
  simp only [List.mem_cons, List.not_mem_nil, or_false] at hm
  rcases hm with rfl
  · exact ⟨_, fO_13_1 L, (lay_knd L (by decide)).trans (by decide)⟩
theorem gO_4_2 {ad : List Nat} {h : hp} (L : Lay TLx ad h) {a : Nat} (ka : q_K h.1 a = 4) : ∃ b, q_O h.1 4 2 a = some b ∧ q_K h.1 b = 1 := by
  obtain ⟨i, hi, rfl⟩ := lay_cel L (by rw [ka]; decide)
  rw [lay_knd L hi] at ka
  have H : ∀ i : Fin 128, knd i.val = 4 → i.val ∈ [13] := by decide +kernel
  have hm := H ⟨i, hi⟩ ka
  simp only [List.mem_cons, List.not_mem_nil, or_false] at hm
  rcases hm with rfl
  · exact ⟨_, fO_13_2 L, (lay_knd L (by decide)).trans (by decide)⟩
theorem gO_4_3 {ad : List Nat} {h : hp} (L : Lay TLx ad h) {a : Nat} (ka : q_K h.1 a = 4) : ∃ b, q_O h.1 4 3 a = some b ∧ q_K h.1 b = 13 ∧ q_N h.1 b = 4 ∧ wb ad b := by
  obtain ⟨i, hi, rfl⟩ := lay_cel L (by rw [ka]; decide)
  rw [lay_knd L hi] at ka
  have H : ∀ i : Fin 128, knd i.val = 4 → i.val ∈ [13] := by decide +kernel
  have hm := H ⟨i, hi⟩ ka
  simp only [List.mem_cons, List.not_mem_nil, or_false] at hm
  rcases hm with rfl
  · exact ⟨_, fO_13_3 L, (lay_knd L (by decide)).trans (by decide), fN_16 L, ⟨16, by decide, by decide, rfl⟩⟩
theorem gO_4_4 {ad : List Nat} {h : hp} (L : Lay TLx ad h) {a : Nat} (ka : q_K h.1 a = 4) : ∃ b, q_O h.1 4 4 a = some b ∧ q_K h.1 b = 13 ∧ q_N h.1 b = 32 ∧ wb ad b := by
  obtain ⟨i, hi, rfl⟩ := lay_cel L (by rw [ka]; decide)
  rw [lay_knd L hi] at ka
  have H : ∀ i : Fin 128, knd i.val = 4 → i.val ∈ [13] := by decide +kernel
  have hm := H ⟨i, hi⟩ ka
  simp only [List.mem_cons, List.not_mem_nil, or_false] at hm
  rcases hm with rfl
  · exact ⟨_, fO_13_4 L, (lay_knd L (by decide)).trans (by decide), fN_17 L, ⟨17, by decide, by decide, rfl⟩⟩
theorem gO_6_3 {ad : List Nat} {h : hp} (L : Lay TLx ad h) {a : Nat} (ka : q_K h.1 a = 6) : ∃ b, q_O h.1 6 3 a = some b ∧ q_K h.1 b = 15 ∧ q_N h.1 b = 3 ∧ wb ad b := by
  obtain ⟨i, hi, rfl⟩ := lay_cel L (by rw [ka]; decide)
  rw [lay_knd L hi] at ka
  have H : ∀ i : Fin 128, knd i.val = 6 → i.val ∈ [4] := by decide +kernel
  have hm := H ⟨i, hi⟩ ka
  simp only [List.mem_cons, List.not_mem_nil, or_false] at hm
  rcases hm with rfl
  · exact ⟨_, fO_4_3 L, (lay_knd L (by decide)).trans (by decide), fN_5 L, ⟨5, by decide, by decide, rfl⟩⟩
theorem gO_7_0 {ad : List Nat} {h : hp} (L : Lay TLx ad h) {a : Nat} (ka : q_K h.1 a = 7) : ∃ b, q_O h.1 7 0 a = some b ∧ q_K h.1 b = 13 ∧ q_N h.1 b = 500 := by
  obtain ⟨i, hi, rfl⟩ := lay_cel L (by rw [ka]; decide)
  rw [lay_knd L hi] at ka
  have H : ∀ i : Fin 128, knd i.val = 7 → i.val ∈ [1] := by decide +kernel
  have hm := H ⟨i, hi⟩ ka
  simp only [List.mem_cons, List.not_mem_nil, or_false] at hm
  rcases hm with rfl
  · exact ⟨_, fO_1_0 L, (lay_knd L (by decide)).trans (by decide), fN_2 L⟩
theorem gO_8_0 {ad : List Nat} {h : hp} (L : Lay TLx ad h) {a : Nat} (ka : q_K h.1 a = 8) : ∃ b, q_O h.1 8 0 a = some b ∧ q_K h.1 b = 13 ∧ q_N h.1 b = 500 := by
  obtain ⟨i, hi, rfl⟩ := lay_cel L (by rw [ka]; decide)
  rw [lay_knd L hi] at ka
  have H : ∀ i : Fin 128, knd i.val = 8 → i.val ∈ [60, 63, 66, 69, 72] := by decide +kernel
  have hm := H ⟨i, hi⟩ ka
  simp only [List.mem_cons, List.not_mem_nil, or_false] at hm
  rcases hm with rfl | rfl | rfl | rfl | rfl
  · exact ⟨_, fO_60_0 L, (lay_knd L (by decide)).trans (by decide), fN_61 L⟩
  · exact ⟨_, fO_63_0 L, (lay_knd L (by decide)).trans (by decide), fN_64 L⟩
  · exact ⟨_, fO_66_0 L, (lay_knd L (by decide)).trans (by decide), fN_67 L⟩
  · exact ⟨_, fO_69_0 L, (lay_knd L (by decide)).trans (by decide), fN_70 L⟩
  · exact ⟨_, fO_72_0 L, (lay_knd L (by decide)).trans (by decide), fN_73 L⟩
theorem gO_8_1 {ad : List Nat} {h : hp} (L : Lay TLx ad h) {a : Nat} (ka : q_K h.1 a = 8) : ∃ b, q_O h.1 8 1 a = some b ∧ q_K h.1 b = 13 ∧ q_N h.1 b = 500 := by
  obtain ⟨i, hi, rfl⟩ := lay_cel L (by rw [ka]; decide)
  rw [lay_knd L hi] at ka
  have H : ∀ i : Fin 128, knd i.val = 8 → i.val ∈ [60, 63, 66, 69, 72] := by decide +kernel
  have hm := H ⟨i, hi⟩ ka
  simp only [List.mem_cons, List.not_mem_nil, or_false] at hm
  rcases hm with rfl | rfl | rfl | rfl | rfl
  · exact ⟨_, fO_60_1 L, (lay_knd L (by decide)).trans (by decide), fN_62 L⟩
  · exact ⟨_, fO_63_1 L, (lay_knd L (by decide)).trans (by decide), fN_65 L⟩
  · exact ⟨_, fO_66_1 L, (lay_knd L (by decide)).trans (by decide), fN_68 L⟩
  · exact ⟨_, fO_69_1 L, (lay_knd L (by decide)).trans (by decide), fN_71 L⟩
  · exact ⟨_, fO_72_1 L, (lay_knd L (by decide)).trans (by decide), fN_74 L⟩
theorem gO_9_5 {ad : List Nat} {h : hp} (L : Lay TLx ad h) {a : Nat} (ka : q_K h.1 a = 9) : ∃ b, q_O h.1 9 5 a = some b ∧ q_K h.1 b = 13 ∧ q_N h.1 b = 3 := by
  obtain ⟨i, hi, rfl⟩ := lay_cel L (by rw [ka]; decide)
  rw [lay_knd L hi] at ka
  have H : ∀ i : Fin 128, knd i.val = 9 → i.val ∈ [6] := by decide +kernel
  have hm := H ⟨i, hi⟩ ka
  simp only [List.mem_cons, List.not_mem_nil, or_false] at hm
  rcases hm with rfl
  · exact ⟨_, fO_6_5 L, (lay_knd L (by decide)).trans (by decide), fN_7 L⟩
theorem gO_9_6 {ad : List Nat} {h : hp} (L : Lay TLx ad h) {a : Nat} (ka : q_K h.1 a = 9) : ∃ b, q_O h.1 9 6 a = some b ∧ q_K h.1 b = 13 ∧ q_N h.1 b = 3 ∧ wb ad b := by
  obtain ⟨i, hi, rfl⟩ := lay_cel L (by rw [ka]; decide)
  rw [lay_knd L hi] at ka
  have H : ∀ i : Fin 128, knd i.val = 9 → i.val ∈ [6] := by decide +kernel
  have hm := H ⟨i, hi⟩ ka
  simp only [List.mem_cons, List.not_mem_nil, or_false] at hm
  rcases hm with rfl
  · exact ⟨_, fO_6_6 L, (lay_knd L (by decide)).trans (by decide), fN_8 L, ⟨8, by decide, by decide, rfl⟩⟩
theorem gO_10_0 {ad : List Nat} {h : hp} (L : Lay TLx ad h) {a : Nat} (ka : q_K h.1 a = 10) : ∃ b, q_O h.1 10 0 a = some b ∧ q_K h.1 b = 5 := by
  obtain ⟨i, hi, rfl⟩ := lay_cel L (by rw [ka]; decide)
  rw [lay_knd L hi] at ka
  have H : ∀ i : Fin 128, knd i.val = 10 → i.val ∈ [19] := by decide +kernel
  have hm := H ⟨i, hi⟩ ka
  simp only [List.mem_cons, List.not_mem_nil, or_false] at hm
  rcases hm with rfl
  · exact ⟨_, fO_19_0 L, (lay_knd L (by decide)).trans (by decide)⟩
theorem gO_10_1 {ad : List Nat} {h : hp} (L : Lay TLx ad h) {a : Nat} (ka : q_K h.1 a = 10) : ∃ b, q_O h.1 10 1 a = some b ∧ q_K h.1 b = 3 := by
  obtain ⟨i, hi, rfl⟩ := lay_cel L (by rw [ka]; decide)
  rw [lay_knd L hi] at ka
  have H : ∀ i : Fin 128, knd i.val = 10 → i.val ∈ [19] := by decide +kernel
  have hm := H ⟨i, hi⟩ ka
  simp only [List.mem_cons, List.not_mem_nil, or_false] at hm
  rcases hm with rfl
  · exact ⟨_, fO_19_1 L, (lay_knd L (by decide)).trans (by decide)⟩
theorem gO_10_2 {ad : List Nat} {h : hp} (L : Lay TLx ad h) {a : Nat} (ka : q_K h.1 a = 10) : ∃ b, q_O h.1 10 2 a = some b ∧ q_K h.1 b = 1 := by
  obtain ⟨i, hi, rfl⟩ := lay_cel L (by rw [ka]; decide)
  rw [lay_knd L hi] at ka
  have H : ∀ i : Fin 128, knd i.val = 10 → i.val ∈ [19] := by decide +kernel
  have hm := H ⟨i, hi⟩ ka
  simp only [List.mem_cons, List.not_mem_nil, or_false] at hm
  rcases hm with rfl
  · exact ⟨_, fO_19_2 L, (lay_knd L (by decide)).trans (by decide)⟩
theorem gO_10_3 {ad : List Nat} {h : hp} (L : Lay TLx ad h) {a : Nat} (ka : q_K h.1 a = 10) : ∃ b, q_O h.1 10 3 a = some b ∧ q_K h.1 b = 13 ∧ q_N h.1 b = 5 := by
  obtain ⟨i, hi, rfl⟩ := lay_cel L (by rw [ka]; decide)
  rw [lay_knd L hi] at ka
  have H : ∀ i : Fin 128, knd i.val = 10 → i.val ∈ [19] := by decide +kernel
  have hm := H ⟨i, hi⟩ ka
  simp only [List.mem_cons, List.not_mem_nil, or_false] at hm
  rcases hm with rfl
  · exact ⟨_, fO_19_3 L, (lay_knd L (by decide)).trans (by decide), fN_22 L⟩
theorem gO_10_4 {ad : List Nat} {h : hp} (L : Lay TLx ad h) {a : Nat} (ka : q_K h.1 a = 10) : ∃ b, q_O h.1 10 4 a = some b ∧ q_K h.1 b = 18 ∧ q_N h.1 b = 5 ∧ wb ad b := by
  obtain ⟨i, hi, rfl⟩ := lay_cel L (by rw [ka]; decide)
  rw [lay_knd L hi] at ka
  have H : ∀ i : Fin 128, knd i.val = 10 → i.val ∈ [19] := by decide +kernel
  have hm := H ⟨i, hi⟩ ka
  simp only [List.mem_cons, List.not_mem_nil, or_false] at hm
  rcases hm with rfl
  · exact ⟨_, fO_19_4 L, (lay_knd L (by decide)).trans (by decide), fN_23 L, ⟨23, by decide, by decide, rfl⟩⟩
theorem gO_10_5 {ad : List Nat} {h : hp} (L : Lay TLx ad h) {a : Nat} (ka : q_K h.1 a = 10) : ∃ b, q_O h.1 10 5 a = some b ∧ q_K h.1 b = 18 ∧ q_N h.1 b = 5 ∧ wb ad b := by
  obtain ⟨i, hi, rfl⟩ := lay_cel L (by rw [ka]; decide)
  rw [lay_knd L hi] at ka
  have H : ∀ i : Fin 128, knd i.val = 10 → i.val ∈ [19] := by decide +kernel
  have hm := H ⟨i, hi⟩ ka
  simp only [List.mem_cons, List.not_mem_nil, or_false] at hm
  rcases hm with rfl
  · exact ⟨_, fO_19_5 L, (lay_knd L (by decide)).trans (by decide), fN_29 L, ⟨29, by decide, by decide, rfl⟩⟩
theorem gO_10_6 {ad : List Nat} {h : hp} (L : Lay TLx ad h) {a : Nat} (ka : q_K h.1 a = 10) : ∃ b, q_O h.1 10 6 a = some b ∧ q_K h.1 b = 19 ∧ q_N h.1 b = 5 ∧ wb ad b := by
  obtain ⟨i, hi, rfl⟩ := lay_cel L (by rw [ka]; decide)
  rw [lay_knd L hi] at ka
  have H : ∀ i : Fin 128, knd i.val = 10 → i.val ∈ [19] := by decide +kernel
  have hm := H ⟨i, hi⟩ ka
  simp only [List.mem_cons, List.not_mem_nil, or_false] at hm
  rcases hm with rfl
  · exact ⟨_, fO_19_6 L, (lay_knd L (by decide)).trans (by decide), fN_35 L, ⟨35, by decide, by decide, rfl⟩⟩
theorem gO_11_0 {ad : List Nat} {h : hp} (L : Lay TLx ad h) {a : Nat} (ka : q_K h.1 a = 11) : ∃ b, q_O h.1 11 0 a = some b ∧ q_K h.1 b = 7 := by
  obtain ⟨i, hi, rfl⟩ := lay_cel L (by rw [ka]; decide)
  rw [lay_knd L hi] at ka
  have H : ∀ i : Fin 128, knd i.val = 11 → i.val ∈ [0] := by decide +kernel
  have hm := H ⟨i, hi⟩ ka
  simp only [List.mem_cons, List.not_mem_nil, or_false] at hm
  rcases hm with rfl
  · exact ⟨_, fO_0_0 L, (lay_knd L (by decide)).trans (by decide)⟩
theorem gO_11_1 {ad : List Nat} {h : hp} (L : Lay TLx ad h) {a : Nat} (ka : q_K h.1 a = 11) : ∃ b, q_O h.1 11 1 a = some b ∧ q_K h.1 b = 5 := by
  obtain ⟨i, hi, rfl⟩ := lay_cel L (by rw [ka]; decide)
  rw [lay_knd L hi] at ka
  have H : ∀ i : Fin 128, knd i.val = 11 → i.val ∈ [0] := by decide +kernel
  have hm := H ⟨i, hi⟩ ka
  simp only [List.mem_cons, List.not_mem_nil, or_false] at hm
  rcases hm with rfl
  · exact ⟨_, fO_0_1 L, (lay_knd L (by decide)).trans (by decide)⟩
theorem gO_11_2 {ad : List Nat} {h : hp} (L : Lay TLx ad h) {a : Nat} (ka : q_K h.1 a = 11) : ∃ b, q_O h.1 11 2 a = some b ∧ q_K h.1 b = 6 := by
  obtain ⟨i, hi, rfl⟩ := lay_cel L (by rw [ka]; decide)
  rw [lay_knd L hi] at ka
  have H : ∀ i : Fin 128, knd i.val = 11 → i.val ∈ [0] := by decide +kernel
  have hm := H ⟨i, hi⟩ ka
  simp only [List.mem_cons, List.not_mem_nil, or_false] at hm
  rcases hm with rfl
  · exact ⟨_, fO_0_2 L, (lay_knd L (by decide)).trans (by decide)⟩
theorem gO_11_3 {ad : List Nat} {h : hp} (L : Lay TLx ad h) {a : Nat} (ka : q_K h.1 a = 11) : ∃ b, q_O h.1 11 3 a = some b ∧ q_K h.1 b = 9 := by
  obtain ⟨i, hi, rfl⟩ := lay_cel L (by rw [ka]; decide)
  rw [lay_knd L hi] at ka
  have H : ∀ i : Fin 128, knd i.val = 11 → i.val ∈ [0] := by decide +kernel
  have hm := H ⟨i, hi⟩ ka
  simp only [List.mem_cons, List.not_mem_nil, or_false] at hm
  rcases hm with rfl
  · exact ⟨_, fO_0_3 L, (lay_knd L (by decide)).trans (by decide)⟩
theorem gO_11_4 {ad : List Nat} {h : hp} (L : Lay TLx ad h) {a : Nat} (ka : q_K h.1 a = 11) : ∃ b, q_O h.1 11 4 a = some b ∧ q_K h.1 b = 17 ∧ q_N h.1 b = 5 ∧ wb ad b := by
  obtain ⟨i, hi, rfl⟩ := lay_cel L (by rw [ka]; decide)
  rw [lay_knd L hi] at ka
  have H : ∀ i : Fin 128, knd i.val = 11 → i.val ∈ [0] := by decide +kernel
  have hm := H ⟨i, hi⟩ ka
  simp only [List.mem_cons, List.not_mem_nil, or_false] at hm
  rcases hm with rfl
  · exact ⟨_, fO_0_4 L, (lay_knd L (by decide)).trans (by decide), fN_9 L, ⟨9, by decide, by decide, rfl⟩⟩
theorem gO_11_6 {ad : List Nat} {h : hp} (L : Lay TLx ad h) {a : Nat} (ka : q_K h.1 a = 11) : ∃ b, q_O h.1 11 6 a = some b ∧ q_K h.1 b = 16 ∧ q_N h.1 b = 4 ∧ wb ad b := by
  obtain ⟨i, hi, rfl⟩ := lay_cel L (by rw [ka]; decide)
  rw [lay_knd L hi] at ka
  have H : ∀ i : Fin 128, knd i.val = 11 → i.val ∈ [0] := by decide +kernel
  have hm := H ⟨i, hi⟩ ka
  simp only [List.mem_cons, List.not_mem_nil, or_false] at hm
  rcases hm with rfl
  · exact ⟨_, fO_0_6 L, (lay_knd L (by decide)).trans (by decide), fN_10 L, ⟨10, by decide, by decide, rfl⟩⟩
theorem gO_11_7 {ad : List Nat} {h : hp} (L : Lay TLx ad h) {a : Nat} (ka : q_K h.1 a = 11) : ∃ b, q_O h.1 11 7 a = some b ∧ q_K h.1 b = 3 := by
  obtain ⟨i, hi, rfl⟩ := lay_cel L (by rw [ka]; decide)
  rw [lay_knd L hi] at ka
  have H : ∀ i : Fin 128, knd i.val = 11 → i.val ∈ [0] := by decide +kernel
  have hm := H ⟨i, hi⟩ ka
  simp only [List.mem_cons, List.not_mem_nil, or_false] at hm
  rcases hm with rfl
  · exact ⟨_, fO_0_7 L, (lay_knd L (by decide)).trans (by decide)⟩
theorem gO_11_8 {ad : List Nat} {h : hp} (L : Lay TLx ad h) {a : Nat} (ka : q_K h.1 a = 11) : ∃ b, q_O h.1 11 8 a = some b ∧ q_K h.1 b = 4 := by
  obtain ⟨i, hi, rfl⟩ := lay_cel L (by rw [ka]; decide)
  rw [lay_knd L hi] at ka
  have H : ∀ i : Fin 128, knd i.val = 11 → i.val ∈ [0] := by decide +kernel
  have hm := H ⟨i, hi⟩ ka
  simp only [List.mem_cons, List.not_mem_nil, or_false] at hm
  rcases hm with rfl
  · exact ⟨_, fO_0_8 L, (lay_knd L (by decide)).trans (by decide)⟩
theorem gO_11_9 {ad : List Nat} {h : hp} (L : Lay TLx ad h) {a : Nat} (ka : q_K h.1 a = 11) : ∃ b, q_O h.1 11 9 a = some b ∧ q_K h.1 b = 10 := by
  obtain ⟨i, hi, rfl⟩ := lay_cel L (by rw [ka]; decide)
  rw [lay_knd L hi] at ka
  have H : ∀ i : Fin 128, knd i.val = 11 → i.val ∈ [0] := by decide +kernel
  have hm := H ⟨i, hi⟩ ka
  simp only [List.mem_cons, List.not_mem_nil, or_false] at hm
  rcases hm with rfl
  · exact ⟨_, fO_0_9 L, (lay_knd L (by decide)).trans (by decide)⟩
theorem gO_11_10 {ad : List Nat} {h : hp} (L : Lay TLx ad h) {a : Nat} (ka : q_K h.1 a = 11) : ∃ b, q_O h.1 11 10 a = some b ∧ q_K h.1 b = 0 := by
  obtain ⟨i, hi, rfl⟩ := lay_cel L (by rw [ka]; decide)
  rw [lay_knd L hi] at ka
  have H : ∀ i : Fin 128, knd i.val = 11 → i.val ∈ [0] := by decide +kernel
  have hm := H ⟨i, hi⟩ ka
  simp only [List.mem_cons, List.not_mem_nil, or_false] at hm
  rcases hm with rfl
  · exact ⟨_, fO_0_10 L, (lay_knd L (by decide)).trans (by decide)⟩
theorem gO_11_11 {ad : List Nat} {h : hp} (L : Lay TLx ad h) {a : Nat} (ka : q_K h.1 a = 11) : ∃ b, q_O h.1 11 11 a = some b ∧ q_K h.1 b = 18 ∧ q_N h.1 b = 3 ∧ wb ad b := by
  obtain ⟨i, hi, rfl⟩ := lay_cel L (by rw [ka]; decide)
  rw [lay_knd L hi] at ka
  have H : ∀ i : Fin 128, knd i.val = 11 → i.val ∈ [0] := by decide +kernel
  have hm := H ⟨i, hi⟩ ka
  simp only [List.mem_cons, List.not_mem_nil, or_false] at hm
  rcases hm with rfl
  · exact ⟨_, fO_0_11 L, (lay_knd L (by decide)).trans (by decide), fN_55 L, ⟨55, by decide, by decide, rfl⟩⟩
theorem gO_11_13 {ad : List Nat} {h : hp} (L : Lay TLx ad h) {a : Nat} (ka : q_K h.1 a = 11) : ∃ b, q_O h.1 11 13 a = some b ∧ q_K h.1 b = 13 ∧ q_N h.1 b = 3 ∧ wb ad b := by
  obtain ⟨i, hi, rfl⟩ := lay_cel L (by rw [ka]; decide)
  rw [lay_knd L hi] at ka
  have H : ∀ i : Fin 128, knd i.val = 11 → i.val ∈ [0] := by decide +kernel
  have hm := H ⟨i, hi⟩ ka
  simp only [List.mem_cons, List.not_mem_nil, or_false] at hm
  rcases hm with rfl
  · exact ⟨_, fO_0_13 L, (lay_knd L (by decide)).trans (by decide), fN_59 L, ⟨59, by decide, by decide, rfl⟩⟩
theorem gH {ad : List Nat} {h : hp} (L : Lay TLx ad h) {c a b : Nat} (kc : q_K h.1 c = 1) (h1 : q_O h.1 1 1 c = some a) (h2 : q_O h.1 3 0 a = some b) : q_O h.1 1 2 c = some b := by
  obtain ⟨i, hi, rfl⟩ := lay_cel L (by rw [kc]; decide)
  rw [lay_knd L hi] at kc
  have H : ∀ i : Fin 128, knd i.val = 1 → i.val ∈ [18, 41, 54, 80, 86, 92, 98] := by decide +kernel
  have hm := H ⟨i, hi⟩ kc
  simp only [List.mem_cons, List.not_mem_nil, or_false] at hm
  rcases hm with rfl | rfl | rfl | rfl | rfl | rfl | rfl
  · rw [fO_18_1 L] at h1; obtain rfl := Option.some.inj h1; rw [fO_14_0 L] at h2; rw [← h2]; exact fO_18_2 L
  · rw [fO_41_1 L] at h1; obtain rfl := Option.some.inj h1; rw [fO_20_0 L] at h2; rw [← h2]; exact fO_41_2 L
  · rw [fO_54_1 L] at h1; obtain rfl := Option.some.inj h1; rw [fO_43_0 L] at h2; rw [← h2]; exact fO_54_2 L
  · rw [fO_80_1 L] at h1; obtain rfl := Option.some.inj h1; rw [fO_76_0 L] at h2; rw [← h2]; exact fO_80_2 L
  · rw [fO_86_1 L] at h1; obtain rfl := Option.some.inj h1; rw [fO_82_0 L] at h2; rw [← h2]; exact fO_86_2 L
  · rw [fO_92_1 L] at h1; obtain rfl := Option.some.inj h1; rw [fO_88_0 L] at h2; rw [← h2]; exact fO_92_2 L
  · rw [fO_98_1 L] at h1; obtain rfl := Option.some.inj h1; rw [fO_94_0 L] at h2; rw [← h2]; exact fO_98_2 L
