section
/-! rows of references, special rows (by gen_safe.py) -/
theorem gE_10_4 {ad : List Nat} {h : hp} (L : Lay TLx ad h) {a b : Nat} (ka : q_K h.1 a = 10) (hb : q_O h.1 10 4 a = some b) {i : Nat} (hi : i < 5) : ∃ d, q_E h.1 b i = some d ∧ q_K h.1 d = 13 ∧ q_N h.1 d = 17 ∧ wb ad d := by
  obtain ⟨q, hq, rfl⟩ := lay_cel L (by rw [ka]; decide)
  rw [lay_knd L hq] at ka
  have H : ∀ i : Fin 128, knd i.val = 10 → i.val = 19 := by decide +kernel
  obtain rfl : q = 19 := H ⟨q, hq⟩ ka
  rw [fO_19_4 L] at hb
  obtain rfl := Option.some.inj hb
  rcases (show i = 0 ∨ i = 1 ∨ i = 2 ∨ i = 3 ∨ i = 4 by omega) with rfl | rfl | rfl | rfl | rfl
  · exact ⟨_, fE_23_0 L, (lay_knd L (by decide)).trans (by decide), fN_24 L, ⟨24, by decide, by decide, rfl⟩⟩
  · exact ⟨_, fE_23_1 L, (lay_knd L (by decide)).trans (by decide), fN_25 L, ⟨25, by decide, by decide, rfl⟩⟩
  · exact ⟨_, fE_23_2 L, (lay_knd L (by decide)).trans (by decide), fN_26 L, ⟨26, by decide, by decide, rfl⟩⟩
  · exact ⟨_, fE_23_3 L, (lay_knd L (by decide)).trans (by decide), fN_27 L, ⟨27, by decide, by decide, rfl⟩⟩
  · exact ⟨_, fE_23_4 L, (lay_knd L (by decide)).trans (by decide), fN_28 L, ⟨28, by decide, by decide, rfl⟩⟩
theorem gE_10_5 {ad : List Nat} {h : hp} (L : Lay TLx ad h) {a b : Nat} (ka : q_K h.1 a = 10) (hb : q_O h.1 10 5 a = some b) {i : Nat} (hi : i < 5) : ∃ d, q_E h.1 b i = some d ∧ q_K h.1 d = 13 ∧ q_N h.1 d = 17 ∧ wb ad d := by
  obtain ⟨q, hq, rfl⟩ := lay_cel L (by rw [ka]; decide)
  rw [lay_knd L hq] at ka
  have H : ∀ i : Fin 128, knd i.val = 10 → i.val = 19 := by decide +kernel
  obtain rfl : q = 19 := H ⟨q, hq⟩ ka
  rw [fO_19_5 L] at hb
  obtain rfl := Option.some.inj hb
  rcases (show i = 0 ∨ i = 1 ∨ i = 2 ∨ i = 3 ∨ i = 4 by omega) with rfl | rfl | rfl | rfl | rfl
  · exact ⟨_, fE_29_0 L, (lay_knd L (by decide)).trans (by decide), fN_30 L, ⟨30, by decide, by decide, rfl⟩⟩
  · exact ⟨_, fE_29_1 L, (lay_knd L (by decide)).trans (by decide), fN_31 L, ⟨31, by decide, by decide, rfl⟩⟩
  · exact ⟨_, fE_29_2 L, (lay_knd L (by decide)).trans (by decide), fN_32 L, ⟨32, by decide, by decide, rfl⟩⟩
  · exact ⟨_, fE_29_3 L, (lay_knd L (by decide)).trans (by decide), fN_33 L, ⟨33, by decide, by decide, rfl⟩⟩
  · exact ⟨_, fE_29_4 L, (lay_knd L (by decide)).trans (by decide), fN_34 L, ⟨34, by decide, by decide, rfl⟩⟩
theorem gE_10_6 {ad : List Nat} {h : hp} (L : Lay TLx ad h) {a b : Nat} (ka : q_K h.1 a = 10) (hb : q_O h.1 10 6 a = some b) {i : Nat} (hi : i < 5) : ∃ d, q_E h.1 b i = some d ∧ q_K h.1 d = 14 ∧ q_N h.1 d = 17 ∧ wb ad d := by
  obtain ⟨q, hq, rfl⟩ := lay_cel L (by rw [ka]; decide)
  rw [lay_knd L hq] at ka
  have H : ∀ i : Fin 128, knd i.val = 10 → i.val = 19 := by decide +kernel
  obtain rfl : q = 19 := H ⟨q, hq⟩ ka
  rw [fO_19_6 L] at hb
  obtain rfl := Option.some.inj hb
  rcases (show i = 0 ∨ i = 1 ∨ i = 2 ∨ i = 3 ∨ i = 4 by omega) with rfl | rfl | rfl | rfl | rfl
  · exact ⟨_, fE_35_0 L, (lay_knd L (by decide)).trans (by decide), fN_36 L, ⟨36, by decide, by decide, rfl⟩⟩
  · exact ⟨_, fE_35_1 L, (lay_knd L (by decide)).trans (by decide), fN_37 L, ⟨37, by decide, by decide, rfl⟩⟩
  · exact ⟨_, fE_35_2 L, (lay_knd L (by decide)).trans (by decide), fN_38 L, ⟨38, by decide, by decide, rfl⟩⟩
  · exact ⟨_, fE_35_3 L, (lay_knd L (by decide)).trans (by decide), fN_39 L, ⟨39, by decide, by decide, rfl⟩⟩
  · exact ⟨_, fE_35_4 L, (lay_knd L (by decide)).trans (by decide), fN_40 L, ⟨40, by decide, by decide, rfl⟩⟩
theorem gE_11_6 {ad : List Nat} {h : hp} (L : Lay TLx ad h) {a b : Nat} (ka : q_K h.1 a = 11) (hb : q_O h.1 11 6 a = some b) {i : Nat} (hi : i < 4) : ∃ d, q_E h.1 b i = some d ∧ q_K h.1 d = 2 := by
  obtain ⟨q, hq, rfl⟩ := lay_cel L (by rw [ka]; decide)
  rw [lay_knd L hq] at ka
  have H : ∀ i : Fin 128, knd i.val = 11 → i.val = 0 := by decide +kernel
  obtain rfl : q = 0 := H ⟨q, hq⟩ ka
  rw [fO_0_6 L] at hb
  obtain rfl := Option.some.inj hb
  rcases (show i = 0 ∨ i = 1 ∨ i = 2 ∨ i = 3 by omega) with rfl | rfl | rfl | rfl
  · exact ⟨_, fE_10_0 L, (lay_knd L (by decide)).trans (by decide)⟩
  · exact ⟨_, fE_10_1 L, (lay_knd L (by decide)).trans (by decide)⟩
  · exact ⟨_, fE_10_2 L, (lay_knd L (by decide)).trans (by decide)⟩
  · exact ⟨_, fE_10_3 L, (lay_knd L (by decide)).trans (by decide)⟩
theorem gE_11_4 {ad : List Nat} {h : hp} (L : Lay TLx ad h) {a b : Nat} (ka : q_K h.1 a = 11) (hb : q_O h.1 11 4 a = some b) {i : Nat} (hi : i < 5) : ∃ d, q_E h.1 b i = some d ∧ q_K h.1 d = 8 := by
  obtain ⟨q, hq, rfl⟩ := lay_cel L (by rw [ka]; decide)
  rw [lay_knd L hq] at ka
  have H : ∀ i : Fin 128, knd i.val = 11 → i.val = 0 := by decide +kernel
  obtain rfl : q = 0 := H ⟨q, hq⟩ ka
  rw [fO_0_4 L] at hb
  obtain rfl := Option.some.inj hb
  rcases (show i = 0 ∨ i = 1 ∨ i = 2 ∨ i = 3 ∨ i = 4 by omega) with rfl | rfl | rfl | rfl | rfl
  · exact ⟨_, fE_9_0 L, (lay_knd L (by decide)).trans (by decide)⟩
  · exact ⟨_, fE_9_1 L, (lay_knd L (by decide)).trans (by decide)⟩
  · exact ⟨_, fE_9_2 L, (lay_knd L (by decide)).trans (by decide)⟩
  · exact ⟨_, fE_9_3 L, (lay_knd L (by decide)).trans (by decide)⟩
  · exact ⟨_, fE_9_4 L, (lay_knd L (by decide)).trans (by decide)⟩
theorem gS_10_3 {ad : List Nat} {h : hp} (L : Lay TLx ad h) {a b : Nat} (ka : q_K h.1 a = 10) (hb : q_O h.1 10 3 a = some b) : b = Ad ad 22 := by
  obtain ⟨q, hq, rfl⟩ := lay_cel L (by rw [ka]; decide)
  rw [lay_knd L hq] at ka
  have H : ∀ i : Fin 128, knd i.val = 10 → i.val = 19 := by decide +kernel
  obtain rfl : q = 19 := H ⟨q, hq⟩ ka
  rw [fO_19_3 L] at hb
  exact (Option.some.inj hb).symm
theorem gS_9_5 {ad : List Nat} {h : hp} (L : Lay TLx ad h) {a b : Nat} (ka : q_K h.1 a = 9) (hb : q_O h.1 9 5 a = some b) : b = Ad ad 7 := by
  obtain ⟨q, hq, rfl⟩ := lay_cel L (by rw [ka]; decide)
  rw [lay_knd L hq] at ka
  have H : ∀ i : Fin 128, knd i.val = 9 → i.val = 6 := by decide +kernel
  obtain rfl : q = 6 := H ⟨q, hq⟩ ka
  rw [fO_6_5 L] at hb
  exact (Option.some.inj hb).symm
theorem gS_0_1 {ad : List Nat} {h : hp} (L : Lay TLx ad h) {a b : Nat} (ka : q_K h.1 a = 0) (hb : q_O h.1 0 1 a = some b) : b = Ad ad 43 := by
  obtain ⟨q, hq, rfl⟩ := lay_cel L (by rw [ka]; decide)
  rw [lay_knd L hq] at ka
  have H : ∀ i : Fin 128, knd i.val = 0 → i.val = 42 := by decide +kernel
  obtain rfl : q = 42 := H ⟨q, hq⟩ ka
  rw [fO_42_1 L] at hb
  exact (Option.some.inj hb).symm
theorem gS_0_5 {ad : List Nat} {h : hp} (L : Lay TLx ad h) {a b : Nat} (ka : q_K h.1 a = 0) (hb : q_O h.1 0 5 a = some b) : b = Ad ad 53 := by
  obtain ⟨q, hq, rfl⟩ := lay_cel L (by rw [ka]; decide)
  rw [lay_knd L hq] at ka
  have H : ∀ i : Fin 128, knd i.val = 0 → i.val = 42 := by decide +kernel
  obtain rfl : q = 42 := H ⟨q, hq⟩ ka
  rw [fO_42_5 L] at hb
  exact (Option.some.inj hb).symm
theorem gS_11_0 {ad : List Nat} {h : hp} (L : Lay TLx ad h) {a b : Nat} (ka : q_K h.1 a = 11) (hb : q_O h.1 11 0 a = some b) : b = Ad ad 1 := by
  obtain ⟨q, hq, rfl⟩ := lay_cel L (by rw [ka]; decide)
  rw [lay_knd L hq] at ka
  have H : ∀ i : Fin 128, knd i.val = 11 → i.val = 0 := by decide +kernel
  obtain rfl : q = 0 := H ⟨q, hq⟩ ka
  rw [fO_0_0 L] at hb
  exact (Option.some.inj hb).symm
theorem br_22 {ad : List Nat} {h : hp} (L : Lay TLx ad h) : b_R ad (Ad ad 22) = (0, 17) := by
  simp [b_R, Ad_eq L]
theorem rb_22 {ad : List Nat} {h : hp} (L : Lay TLx ad h) {δ0 δ : dp} (I : CI ad h.1 δ0 δ) (i : Nat) : 0 ≤ (q_R δ (Ad ad 22) i).toInt ∧ (q_R δ (Ad ad 22) i).toInt ≤ 17 := by
  have := I.2.1 (Ad ad 22) i
  rw [br_22 L] at this
  exact this
theorem cr_22 {ad : List Nat} {h : hp} (L : Lay TLx ad h) {δ0 δ : dp} (I : CI ad h.1 δ0 δ) {i : Nat} {v : Int32} (h1 : 0 ≤ v.toInt) (h2 : v.toInt ≤ 17) : CI ad h.1 δ0 (s_R δ (Ad ad 22) i v) := by
  refine ⟨fun c' k' a' hk => I.1 c' k' a' hk, fun b' j => ?_, fun j hj q hq => ?_, fun k' a' => I.2.2.2.1 k' a', fun q q1 q2 => ?_⟩
  · rw [qR_sR]
    by_cases e : b' = Ad ad 22 ∧ j = i
    · rw [if_pos e, e.1, br_22 L]; exact ⟨h1, h2⟩
    · rw [if_neg e]; exact I.2.1 b' j
  · rw [rR_o (fun e => by rw [Ad_eq L _ _ (by omega) (by omega)] at e; omega), rR_o (fun e => by rw [Ad_eq L _ _ (by omega) (by omega)] at e; omega)]
    exact I.2.2.1 j hj q hq
  · rw [rR_o (fun e => by rw [Ad_eq L _ _ (by omega) (by omega)] at e; omega)]
    exact I.2.2.2.2 q q1 q2
theorem br_56 {ad : List Nat} {h : hp} (L : Lay TLx ad h) : b_R ad (Ad ad 56) = (0, 1000) := by
  simp [b_R, Ad_eq L]
theorem rb_56 {ad : List Nat} {h : hp} (L : Lay TLx ad h) {δ0 δ : dp} (I : CI ad h.1 δ0 δ) (i : Nat) : 0 ≤ (q_R δ (Ad ad 56) i).toInt ∧ (q_R δ (Ad ad 56) i).toInt ≤ 1000 := by
  have := I.2.1 (Ad ad 56) i
  rw [br_56 L] at this
  exact this
theorem br_57 {ad : List Nat} {h : hp} (L : Lay TLx ad h) : b_R ad (Ad ad 57) = (0, 1000) := by
  simp [b_R, Ad_eq L]
theorem rb_57 {ad : List Nat} {h : hp} (L : Lay TLx ad h) {δ0 δ : dp} (I : CI ad h.1 δ0 δ) (i : Nat) : 0 ≤ (q_R δ (Ad ad 57) i).toInt ∧ (q_R δ (Ad ad 57) i).toInt ≤ 1000 := by
  have := I.2.1 (Ad ad 57) i
  rw [br_57 L] at this
  exact this
theorem br_58 {ad : List Nat} {h : hp} (L : Lay TLx ad h) : b_R ad (Ad ad 58) = (0, 1000) := by
  simp [b_R, Ad_eq L]
theorem rb_58 {ad : List Nat} {h : hp} (L : Lay TLx ad h) {δ0 δ : dp} (I : CI ad h.1 δ0 δ) (i : Nat) : 0 ≤ (q_R δ (Ad ad 58) i).toInt ∧ (q_R δ (Ad ad 58) i).toInt ≤ 1000 := by
  have := I.2.1 (Ad ad 58) i
  rw [br_58 L] at this
  exact this
theorem br_7 {ad : List Nat} {h : hp} (L : Lay TLx ad h) : b_R ad (Ad ad 7) = (0, 500) := by
  simp [b_R, Ad_eq L]
theorem rb_7 {ad : List Nat} {h : hp} (L : Lay TLx ad h) {δ0 δ : dp} (I : CI ad h.1 δ0 δ) (i : Nat) : 0 ≤ (q_R δ (Ad ad 7) i).toInt ∧ (q_R δ (Ad ad 7) i).toInt ≤ 500 := by
  have := I.2.1 (Ad ad 7) i
  rw [br_7 L] at this
  exact this
theorem cr_7 {ad : List Nat} {h : hp} (L : Lay TLx ad h) {δ0 δ : dp} (I : CI ad h.1 δ0 δ) {i : Nat} {v : Int32} (h1 : 0 ≤ v.toInt) (h2 : v.toInt ≤ 500) : CI ad h.1 δ0 (s_R δ (Ad ad 7) i v) := by
  refine ⟨fun c' k' a' hk => I.1 c' k' a' hk, fun b' j => ?_, fun j hj q hq => ?_, fun k' a' => I.2.2.2.1 k' a', fun q q1 q2 => ?_⟩
  · rw [qR_sR]
    by_cases e : b' = Ad ad 7 ∧ j = i
    · rw [if_pos e, e.1, br_7 L]; exact ⟨h1, h2⟩
    · rw [if_neg e]; exact I.2.1 b' j
  · rw [rR_o (fun e => by rw [Ad_eq L _ _ (by omega) (by omega)] at e; omega), rR_o (fun e => by rw [Ad_eq L _ _ (by omega) (by omega)] at e; omega)]
    exact I.2.2.1 j hj q hq
  · rw [rR_o (fun e => by rw [Ad_eq L _ _ (by omega) (by omega)] at e; omega)]
    exact I.2.2.2.2 q q1 q2
theorem br_62 {ad : List Nat} {h : hp} (L : Lay TLx ad h) : b_R ad (Ad ad 62) = (0, 2147483647) := by
  simp [b_R, Ad_eq L]
theorem rb_62 {ad : List Nat} {h : hp} (L : Lay TLx ad h) {δ0 δ : dp} (I : CI ad h.1 δ0 δ) (i : Nat) : 0 ≤ (q_R δ (Ad ad 62) i).toInt ∧ (q_R δ (Ad ad 62) i).toInt ≤ 2147483647 := by
  have := I.2.1 (Ad ad 62) i
  rw [br_62 L] at this
  exact this
theorem br_65 {ad : List Nat} {h : hp} (L : Lay TLx ad h) : b_R ad (Ad ad 65) = (0, 2147483647) := by
  simp [b_R, Ad_eq L]
theorem rb_65 {ad : List Nat} {h : hp} (L : Lay TLx ad h) {δ0 δ : dp} (I : CI ad h.1 δ0 δ) (i : Nat) : 0 ≤ (q_R δ (Ad ad 65) i).toInt ∧ (q_R δ (Ad ad 65) i).toInt ≤ 2147483647 := by
  have := I.2.1 (Ad ad 65) i
  rw [br_65 L] at this
  exact this
theorem br_68 {ad : List Nat} {h : hp} (L : Lay TLx ad h) : b_R ad (Ad ad 68) = (0, 2147483647) := by
  simp [b_R, Ad_eq L]
theorem rb_68 {ad : List Nat} {h : hp} (L : Lay TLx ad h) {δ0 δ : dp} (I : CI ad h.1 δ0 δ) (i : Nat) : 0 ≤ (q_R δ (Ad ad 68) i).toInt ∧ (q_R δ (Ad ad 68) i).toInt ≤ 2147483647 := by
  have := I.2.1 (Ad ad 68) i
  rw [br_68 L] at this
  exact this
theorem br_71 {ad : List Nat} {h : hp} (L : Lay TLx ad h) : b_R ad (Ad ad 71) = (0, 2147483647) := by
  simp [b_R, Ad_eq L]
theorem rb_71 {ad : List Nat} {h : hp} (L : Lay TLx ad h) {δ0 δ : dp} (I : CI ad h.1 δ0 δ) (i : Nat) : 0 ≤ (q_R δ (Ad ad 71) i).toInt ∧ (q_R δ (Ad ad 71) i).toInt ≤ 2147483647 := by
  have := I.2.1 (Ad ad 71) i
  rw [br_71 L] at this
  exact this
theorem br_74 {ad : List Nat} {h : hp} (L : Lay TLx ad h) : b_R ad (Ad ad 74) = (0, 2147483647) := by
  simp [b_R, Ad_eq L]
theorem rb_74 {ad : List Nat} {h : hp} (L : Lay TLx ad h) {δ0 δ : dp} (I : CI ad h.1 δ0 δ) (i : Nat) : 0 ≤ (q_R δ (Ad ad 74) i).toInt ∧ (q_R δ (Ad ad 74) i).toInt ≤ 2147483647 := by
  have := I.2.1 (Ad ad 74) i
  rw [br_74 L] at this
  exact this
theorem br_46 {ad : List Nat} {h : hp} (L : Lay TLx ad h) : b_R ad (Ad ad 46) = (0, 0) := by
  simp [b_R, Ad_eq L]
theorem rb_46 {ad : List Nat} {h : hp} (L : Lay TLx ad h) {δ0 δ : dp} (I : CI ad h.1 δ0 δ) (i : Nat) : 0 ≤ (q_R δ (Ad ad 46) i).toInt ∧ (q_R δ (Ad ad 46) i).toInt ≤ 0 := by
  have := I.2.1 (Ad ad 46) i
  rw [br_46 L] at this
  exact this
theorem br_47 {ad : List Nat} {h : hp} (L : Lay TLx ad h) : b_R ad (Ad ad 47) = (0, 65) := by
  simp [b_R, Ad_eq L]
theorem rb_47 {ad : List Nat} {h : hp} (L : Lay TLx ad h) {δ0 δ : dp} (I : CI ad h.1 δ0 δ) (i : Nat) : 0 ≤ (q_R δ (Ad ad 47) i).toInt ∧ (q_R δ (Ad ad 47) i).toInt ≤ 65 := by
  have := I.2.1 (Ad ad 47) i
  rw [br_47 L] at this
  exact this
theorem br_48 {ad : List Nat} {h : hp} (L : Lay TLx ad h) : b_R ad (Ad ad 48) = (0, 130) := by
  simp [b_R, Ad_eq L]
theorem rb_48 {ad : List Nat} {h : hp} (L : Lay TLx ad h) {δ0 δ : dp} (I : CI ad h.1 δ0 δ) (i : Nat) : 0 ≤ (q_R δ (Ad ad 48) i).toInt ∧ (q_R δ (Ad ad 48) i).toInt ≤ 130 := by
  have := I.2.1 (Ad ad 48) i
  rw [br_48 L] at this
  exact this
theorem br_49 {ad : List Nat} {h : hp} (L : Lay TLx ad h) : b_R ad (Ad ad 49) = (0, 195) := by
  simp [b_R, Ad_eq L]
theorem rb_49 {ad : List Nat} {h : hp} (L : Lay TLx ad h) {δ0 δ : dp} (I : CI ad h.1 δ0 δ) (i : Nat) : 0 ≤ (q_R δ (Ad ad 49) i).toInt ∧ (q_R δ (Ad ad 49) i).toInt ≤ 195 := by
  have := I.2.1 (Ad ad 49) i
  rw [br_49 L] at this
  exact this
theorem br_50 {ad : List Nat} {h : hp} (L : Lay TLx ad h) : b_R ad (Ad ad 50) = (0, 260) := by
  simp [b_R, Ad_eq L]
theorem rb_50 {ad : List Nat} {h : hp} (L : Lay TLx ad h) {δ0 δ : dp} (I : CI ad h.1 δ0 δ) (i : Nat) : 0 ≤ (q_R δ (Ad ad 50) i).toInt ∧ (q_R δ (Ad ad 50) i).toInt ≤ 260 := by
  have := I.2.1 (Ad ad 50) i
  rw [br_50 L] at this
  exact this
theorem br_51 {ad : List Nat} {h : hp} (L : Lay TLx ad h) : b_R ad (Ad ad 51) = (0, 325) := by
  simp [b_R, Ad_eq L]
theorem rb_51 {ad : List Nat} {h : hp} (L : Lay TLx ad h) {δ0 δ : dp} (I : CI ad h.1 δ0 δ) (i : Nat) : 0 ≤ (q_R δ (Ad ad 51) i).toInt ∧ (q_R δ (Ad ad 51) i).toInt ≤ 325 := by
  have := I.2.1 (Ad ad 51) i
  rw [br_51 L] at this
  exact this
theorem br_52 {ad : List Nat} {h : hp} (L : Lay TLx ad h) : b_R ad (Ad ad 52) = (0, 390) := by
  simp [b_R, Ad_eq L]
theorem rb_52 {ad : List Nat} {h : hp} (L : Lay TLx ad h) {δ0 δ : dp} (I : CI ad h.1 δ0 δ) (i : Nat) : 0 ≤ (q_R δ (Ad ad 52) i).toInt ∧ (q_R δ (Ad ad 52) i).toInt ≤ 390 := by
  have := I.2.1 (Ad ad 52) i
  rw [br_52 L] at this
  exact this
end
section
/-! a THIEF's step is written -/
theorem th_cell {ad : List Nat} {h : hp} (L : Lay TLx ad h) {a s v : Nat} (ka : q_K h.1 a = 8) (hs : q_O h.1 8 0 a = some s) (hv : q_O h.1 8 1 a = some v) : ∃ j, j < 5 ∧ a = Ad ad (60 + 3 * j) ∧ s = Ad ad (61 + 3 * j) ∧ v = Ad ad (62 + 3 * j) := by
  obtain ⟨i, hi, rfl⟩ := lay_cel L (by rw [ka]; decide)
  rw [lay_knd L hi] at ka
  have H : ∀ i : Fin 128, knd i.val = 8 → i.val ∈ [60, 63, 66, 69, 72] := by decide +kernel
  have hm := H ⟨i, hi⟩ ka
  simp only [List.mem_cons, List.not_mem_nil, or_false] at hm
  rcases hm with rfl | rfl | rfl | rfl | rfl
  · rw [fO_60_0 L] at hs; rw [fO_60_1 L] at hv
    exact ⟨0, by decide, rfl, (Option.some.inj hs).symm, (Option.some.inj hv).symm⟩
  · rw [fO_63_0 L] at hs; rw [fO_63_1 L] at hv
    exact ⟨1, by decide, rfl, (Option.some.inj hs).symm, (Option.some.inj hv).symm⟩
  · rw [fO_66_0 L] at hs; rw [fO_66_1 L] at hv
    exact ⟨2, by decide, rfl, (Option.some.inj hs).symm, (Option.some.inj hv).symm⟩
  · rw [fO_69_0 L] at hs; rw [fO_69_1 L] at hv
    exact ⟨3, by decide, rfl, (Option.some.inj hs).symm, (Option.some.inj hv).symm⟩
  · rw [fO_72_0 L] at hs; rw [fO_72_1 L] at hv
    exact ⟨4, by decide, rfl, (Option.some.inj hs).symm, (Option.some.inj hv).symm⟩
theorem th_d {ad : List Nat} {h : hp} (L : Lay TLx ad h) {j : Nat} (hj : j < 5) : b_R ad (Ad ad (61 + 3 * j)) = (-2147483648, 2147483647) := by
  rcases (show j = 0 ∨ j = 1 ∨ j = 2 ∨ j = 3 ∨ j = 4 by omega) with rfl | rfl | rfl | rfl | rfl <;> simp [b_R, Ad_eq L]
theorem th_dv {ad : List Nat} {h : hp} (L : Lay TLx ad h) {j : Nat} (hj : j < 5) : b_R ad (Ad ad (62 + 3 * j)) = (0, 2147483647) := by
  rcases (show j = 0 ∨ j = 1 ∨ j = 2 ∨ j = 3 ∨ j = 4 by omega) with rfl | rfl | rfl | rfl | rfl
  · exact br_62 L
  · exact br_65 L
  · exact br_68 L
  · exact br_71 L
  · exact br_74 L
theorem th_add {ad : List Nat} {h : hp} (L : Lay TLx ad h) {δ0 δ : dp} (I : CI ad h.1 δ0 δ) {a s v : Nat} (ka : q_K h.1 a = 8) (hs : q_O h.1 8 0 a = some s) (hv : q_O h.1 8 1 a = some v) {x1 x2 w : Int32} {l l2 : Nat} (tv : t_v x1 x2) (hl : (l : Int) = (q_I δ 8 2 a).toInt) (hl2 : l2 = l) (h5 : (q_I δ 8 2 a).toInt < 500) (hw : w.toInt = (q_I δ 8 2 a).toInt + 1) : CI ad h.1 δ0 (s_I (s_R (s_R δ s l x1) v l2 x2) 8 2 a w) := by
  subst hl2
  obtain ⟨j, hj, rfl, rfl, rfl⟩ := th_cell L ka hs hv
  have hb := I.b 2 ka
  have eb : b_I h.1 8 2 (Ad ad (60 + 3 * j)) = (0, 500) := by simp [b_I]
  rw [eb] at hb
  dsimp only at hb
  have hR : ∀ b i, q_R (s_I (s_R (s_R δ (Ad ad (61 + 3 * j)) l2 x1) (Ad ad (62 + 3 * j)) l2 x2) 8 2 (Ad ad (60 + 3 * j)) w) b i = if b = Ad ad (62 + 3 * j) ∧ i = l2 then x2 else if b = Ad ad (61 + 3 * j) ∧ i = l2 then x1 else q_R δ b i := by
    intro b i
    rw [qR_sI, qR_sR, qR_sR]
  refine ⟨fun c' k' a' hk => ?_, fun b i => ?_, fun j' hj' i hi => ?_, fun k' a' => ?_, fun i q1 q2 => ?_⟩
  · rw [qI_sI]
    by_cases e : c' = 8 ∧ k' = 2 ∧ a' = Ad ad (60 + 3 * j)
    · rw [if_pos e, e.1, e.2.1, e.2.2, eb]; exact ⟨by show (0 : Int) ≤ _; omega, by show _ ≤ (500 : Int); omega⟩
    · rw [if_neg e]; exact I.1 c' k' a' hk
  · rw [hR]
    by_cases e1 : b = Ad ad (62 + 3 * j) ∧ i = l2
    · rw [if_pos e1, e1.1, th_dv L hj]; exact ⟨tv.1, (ti_b _).2⟩
    · rw [if_neg e1]
      by_cases e2 : b = Ad ad (61 + 3 * j) ∧ i = l2
      · rw [if_pos e2, e2.1, th_d L hj]; exact ti_b _
      · rw [if_neg e2]; exact I.2.1 b i
  · rw [hR, hR]
    have n1 : ¬ (Ad ad (61 + 3 * j') = Ad ad (62 + 3 * j) ∧ i = l2) := fun z => by
      have := z.1
      rw [Ad_eq L _ _ (by omega) (by omega)] at this
      omega
    have n2 : ¬ (Ad ad (62 + 3 * j') = Ad ad (61 + 3 * j) ∧ i = l2) := fun z => by
      have := z.1
      rw [Ad_eq L _ _ (by omega) (by omega)] at this
      omega
    rw [if_neg n1, if_neg n2]
    rw [qI_sI] at hi
    by_cases e : j' = j
    · subst e
      rw [if_pos ⟨rfl, rfl, rfl⟩] at hi
      by_cases e2 : i = l2
      · rw [if_pos ⟨rfl, e2⟩, if_pos ⟨rfl, e2⟩]; exact tv
      · rw [if_neg (fun z => e2 z.2), if_neg (fun z => e2 z.2)]
        exact I.2.2.1 j' hj' i (by omega)
    · have n3 : ¬ (8 = 8 ∧ 2 = 2 ∧ Ad ad (60 + 3 * j') = Ad ad (60 + 3 * j)) := fun z => by
        have := z.2.2
        rw [Ad_eq L _ _ (by omega) (by omega)] at this
        omega
      have n4 : ¬ (Ad ad (61 + 3 * j') = Ad ad (61 + 3 * j) ∧ i = l2) := fun z => by
        have := z.1
        rw [Ad_eq L _ _ (by omega) (by omega)] at this
        omega
      have n5 : ¬ (Ad ad (62 + 3 * j') = Ad ad (62 + 3 * j) ∧ i = l2) := fun z => by
        have := z.1
        rw [Ad_eq L _ _ (by omega) (by omega)] at this
        omega
      rw [if_neg n3] at hi
      rw [if_neg n4, if_neg n5]
      exact I.2.2.1 j' hj' i hi
  · rw [rI_o (fun z => absurd z.1 (by decide))]; exact I.2.2.2.1 k' a'
  · funext x
    have m1 : ¬ (Ad ad i = Ad ad (62 + 3 * j) ∧ x = l2) := fun z => by
      have := z.1
      rw [Ad_eq L _ _ (by omega) (by omega)] at this
      omega
    have m2 : ¬ (Ad ad i = Ad ad (61 + 3 * j) ∧ x = l2) := fun z => by
      have := z.1
      rw [Ad_eq L _ _ (by omega) (by omega)] at this
      omega
    rw [hR, if_neg m1, if_neg m2, I.2.2.2.2 i q1 q2]
end
section
/-! THIEVES' rows; loops' starts; the set of BestRow -/
theorem th_v {ad : List Nat} {h : hp} (L : Lay TLx ad h) {δ0 δ : dp} (I : CI ad h.1 δ0 δ) {a v : Nat} (ka : q_K h.1 a = 8) (hv : q_O h.1 8 1 a = some v) (i : Nat) : 0 ≤ (q_R δ v i).toInt ∧ (q_R δ v i).toInt ≤ 2147483647 := by
  obtain ⟨s, hs, _⟩ := gO_8_0 L ka
  obtain ⟨j, hj, rfl, rfl, rfl⟩ := th_cell L ka hs hv
  have := I.2.1 (Ad ad (62 + 3 * j)) i
  rw [th_dv L hj] at this
  exact this
theorem th_tv {ad : List Nat} {h : hp} (L : Lay TLx ad h) {δ0 δ : dp} (I : CI ad h.1 δ0 δ) {a s v : Nat} (ka : q_K h.1 a = 8) (hs : q_O h.1 8 0 a = some s) (hv : q_O h.1 8 1 a = some v) {i : Nat} (hi : (i : Int) < (q_I δ 8 2 a).toInt) : 0 ≤ (q_R δ v i).toInt ∧ ((q_R δ s i).toInt = 1 → (q_R δ v i).toInt < 4) ∧ ((q_R δ s i).toInt = 11 → (q_R δ v i).toInt < 500) := by
  obtain ⟨j, hj, rfl, rfl, rfl⟩ := th_cell L ka hs hv
  have := I.2.2.1 j hj i hi
  exact ⟨this.1, fun e => this.2.1 (i_eq e), fun e => this.2.2 (i_eq e)⟩
theorem th_n7 {ad : List Nat} {h : hp} (L : Lay TLx ad h) {a s : Nat} (ka : q_K h.1 a = 8) (hs : q_O h.1 8 0 a = some s) : Ad ad 7 ≠ s := by
  obtain ⟨v, hv, _⟩ := gO_8_1 L ka
  obtain ⟨j, hj, rfl, rfl, rfl⟩ := th_cell L ka hs hv
  intro e
  rw [Ad_eq L _ _ (by omega) (by omega)] at e
  omega
theorem th_n7v {ad : List Nat} {h : hp} (L : Lay TLx ad h) {a v : Nat} (ka : q_K h.1 a = 8) (hv : q_O h.1 8 1 a = some v) : Ad ad 7 ≠ v := by
  obtain ⟨s, hs, _⟩ := gO_8_0 L ka
  obtain ⟨j, hj, rfl, rfl, rfl⟩ := th_cell L ka hs hv
  intro e
  rw [Ad_eq L _ _ (by omega) (by omega)] at e
  omega
/-- the starts of the open loops: ascending, none behind the THIEF's end -/
def LSn (ad : List Nat) (δ : dp) (th : Nat) (m : Int) : Prop := (∀ i : Nat, (i : Int) < m → (q_R δ (Ad ad 7) i).toInt ≤ (q_I δ 8 2 th).toInt) ∧ ∀ i j : Nat, i ≤ j → (j : Int) < m → (q_R δ (Ad ad 7) i).toInt ≤ (q_R δ (Ad ad 7) j).toInt
theorem LSn.t {ad : List Nat} {δ δ1 : dp} {th : Nat} {m : Int} (H : LSn ad δ th m) (l : (q_I δ 8 2 th).toInt ≤ (q_I δ1 8 2 th).toInt) (r : q_R δ1 (Ad ad 7) = q_R δ (Ad ad 7)) : LSn ad δ1 th m := by
  refine ⟨fun i hi => ?_, fun i j hij hj => ?_⟩
  · rw [r]; have := H.1 i hi; omega
  · rw [r]; exact H.2 i j hij hj
theorem LSn.n {ad : List Nat} {δ : dp} {th : Nat} {m m1 : Int} (H : LSn ad δ th m) (l : m1 ≤ m) : LSn ad δ th m1 := ⟨fun i hi => H.1 i (by omega), fun i j hij hj => H.2 i j hij (by omega)⟩
theorem LSn.w {ad : List Nat} {δ : dp} {th : Nat} {m : Int} (H : LSn ad δ th m) {i : Nat} {v : Int32} (hi : (i : Int) = m) (hv : v.toInt = (q_I δ 8 2 th).toInt) : LSn ad (s_R δ (Ad ad 7) i v) th (m + 1) := by
  have e : ∀ k, q_R (s_R δ (Ad ad 7) i v) (Ad ad 7) k = if k = i then v else q_R δ (Ad ad 7) k := by
    intro k
    rw [qR_sR]
    by_cases z : k = i
    · rw [if_pos ⟨rfl, z⟩, if_pos z]
    · rw [if_neg (fun y => z y.2), if_neg z]
  refine ⟨fun k hk => ?_, fun k j hkj hj => ?_⟩
  · rw [e]
    show _ ≤ (q_I δ 8 2 th).toInt
    by_cases z : k = i
    · rw [if_pos z]; omega
    · rw [if_neg z]; exact H.1 k (by omega)
  · rw [e, e]
    by_cases z : j = i
    · rw [if_pos z]
      by_cases y : k = i
      · rw [if_pos y]; exact Int.le_refl _
      · rw [if_neg y, hv]; exact H.1 k (by omega)
    · rw [if_neg z, if_neg (by omega)]; exact H.2 k j hkj (by omega)
theorem LSn.c {ad : List Nat} {δ : dp} {th : Nat} {m : Int} (H : LSn ad δ th m) {i : Nat} (hi : (i : Int) = m - 1) : LSn ad (s_I δ 8 2 th (q_R δ (Ad ad 7) i)) th (m - 1) := by
  refine ⟨fun k hk => ?_, fun k j hkj hj => ?_⟩
  · show (q_R δ (Ad ad 7) k).toInt ≤ _
    rw [rI_s]; exact H.2 k i (by omega) (by omega)
  · show (q_R δ (Ad ad 7) k).toInt ≤ (q_R δ (Ad ad 7) j).toInt
    exact H.2 k j hkj (by omega)
/-- BestRow's set is as it was -/
def sam (ad : List Nat) (δ δ1 : dp) : Prop := q_I δ1 3 1 (Ad ad 43) = q_I δ 3 1 (Ad ad 43) ∧ ∀ i : Nat, (i : Int) < (q_I δ 3 1 (Ad ad 43)).toInt → q_R δ1 (Ad ad 44) i = q_R δ (Ad ad 44) i
theorem sam_r {ad : List Nat} {δ : dp} : sam ad δ δ := ⟨rfl, fun _ _ => rfl⟩
theorem sam_t {ad : List Nat} {δ δ1 δ2 : dp} (h : sam ad δ δ1) (k : sam ad δ1 δ2) : sam ad δ δ2 := ⟨k.1.trans h.1, fun i hi => (k.2 i (by rw [h.1]; exact hi)).trans (h.2 i hi)⟩
theorem sam_c {ad : List Nat} {δ δ1 : dp} (h : q_I δ1 3 1 (Ad ad 43) = q_I δ 3 1 (Ad ad 43)) (k : q_R δ1 = q_R δ) : sam ad δ δ1 := ⟨h, fun i _ => by rw [k]⟩
theorem sam_w {ad : List Nat} {δ : dp} {b i : Nat} {v : Int32} (h : b ≠ Ad ad 44) : sam ad δ (s_R δ b i v) := ⟨rfl, fun j _ => by rw [rR_o (fun e => h e.symm)]⟩
/-- a row of its own bounds -/
def wr (ad : List Nat) (b : Nat) (lo hi : Int) : Prop := ∃ i : Nat, i ∈ [46, 47, 48, 49, 50, 51, 52, 56, 57, 58] ∧ b = Ad ad i ∧ b_R ad b = (lo, hi)
theorem wr.lt {ad : List Nat} {b : Nat} {lo hi : Int} (w : wr ad b lo hi) : ∃ i : Nat, 46 ≤ i ∧ i ≤ 58 ∧ b = Ad ad i := by
  obtain ⟨i, hi, e, _⟩ := w
  have H : ∀ k ∈ [46, 47, 48, 49, 50, 51, 52, 56, 57, 58], 46 ≤ k ∧ k ≤ 58 := by decide
  exact ⟨i, (H i hi).1, (H i hi).2, e⟩
theorem wr.ne {ad : List Nat} {h : hp} (L : Lay TLx ad h) {b j : Nat} {lo hi : Int} (w : wr ad b lo hi) (hj : j < 128) (hn : j < 46 ∨ 58 < j) : b ≠ Ad ad j := by
  obtain ⟨i, h1, h2, rfl⟩ := w.lt
  intro e
  rw [Ad_eq L _ _ (by omega) (by omega)] at e
  omega
theorem CI.wR {ad : List Nat} {g : gp} {δ0 δ : dp} (I : CI ad g δ0 δ) {b : Nat} {lo hi : Int} (w : wr ad b lo hi) (i : Nat) : lo ≤ (q_R δ b i).toInt ∧ (q_R δ b i).toInt ≤ hi := by
  obtain ⟨_, _, _, e⟩ := w
  have := I.2.1 b i
  rw [e] at this
  exact this
theorem CI.sW {ad : List Nat} {h : hp} (L : Lay TLx ad h) {δ0 δ : dp} (I : CI ad h.1 δ0 δ) {b i : Nat} {lo hi : Int} {v : Int32} (w : wr ad b lo hi) (h1 : lo ≤ v.toInt) (h2 : v.toInt ≤ hi) : CI ad h.1 δ0 (s_R δ b i v) := by
  have e := w
  obtain ⟨_, _, _, e⟩ := e
  refine ⟨fun c' k' a' hk => I.1 c' k' a' hk, fun b' j => ?_, fun j hj q hq => ?_, fun k' a' => I.2.2.2.1 k' a', fun q q1 q2 => ?_⟩
  · rw [qR_sR]
    by_cases z : b' = b ∧ j = i
    · rw [if_pos z, z.1, e]; exact ⟨h1, h2⟩
    · rw [if_neg z]; exact I.2.1 b' j
  · rw [rR_o (fun z => w.ne L (j := 61 + 3 * j) (by omega) (by omega) z.symm), rR_o (fun z => w.ne L (j := 62 + 3 * j) (by omega) (by omega) z.symm)]
    exact I.2.2.1 j hj q hq
  · rw [rR_o (fun z => w.ne L (by omega) (by omega) z.symm)]
    exact I.2.2.2.2 q q1 q2

theorem gW_0_3 {ad : List Nat} {h : hp} (L : Lay TLx ad h) {a b : Nat} (ka : q_K h.1 a = 0) (hb : q_O h.1 0 3 a = some b) {i : Nat} (hi : i < 7) : ∃ d, q_E h.1 b i = some d ∧ q_K h.1 d = 13 ∧ q_N h.1 d = 7 ∧ wr ad d 0 (65 * (i : Int)) := by
  obtain ⟨q, hq, rfl⟩ := lay_cel L (by rw [ka]; decide)
  rw [lay_knd L hq] at ka
  have H : ∀ i : Fin 128, knd i.val = 0 → i.val = 42 := by decide +kernel
  obtain rfl : q = 42 := H ⟨q, hq⟩ ka
  rw [fO_42_3 L] at hb
  obtain rfl := Option.some.inj hb
  rcases (show i = 0 ∨ i = 1 ∨ i = 2 ∨ i = 3 ∨ i = 4 ∨ i = 5 ∨ i = 6 by omega) with rfl | rfl | rfl | rfl | rfl | rfl | rfl
  · exact ⟨_, fE_45_0 L, (lay_knd L (by decide)).trans (by decide), fN_46 L, 46, by decide, rfl, br_46 L⟩
  · exact ⟨_, fE_45_1 L, (lay_knd L (by decide)).trans (by decide), fN_47 L, 47, by decide, rfl, br_47 L⟩
  · exact ⟨_, fE_45_2 L, (lay_knd L (by decide)).trans (by decide), fN_48 L, 48, by decide, rfl, br_48 L⟩
  · exact ⟨_, fE_45_3 L, (lay_knd L (by decide)).trans (by decide), fN_49 L, 49, by decide, rfl, br_49 L⟩
  · exact ⟨_, fE_45_4 L, (lay_knd L (by decide)).trans (by decide), fN_50 L, 50, by decide, rfl, br_50 L⟩
  · exact ⟨_, fE_45_5 L, (lay_knd L (by decide)).trans (by decide), fN_51 L, 51, by decide, rfl, br_51 L⟩
  · exact ⟨_, fE_45_6 L, (lay_knd L (by decide)).trans (by decide), fN_52 L, 52, by decide, rfl, br_52 L⟩
theorem gW_11_11 {ad : List Nat} {h : hp} (L : Lay TLx ad h) {a b : Nat} (ka : q_K h.1 a = 11) (hb : q_O h.1 11 11 a = some b) {i : Nat} (hi : i < 3) : ∃ d, q_E h.1 b i = some d ∧ q_K h.1 d = 13 ∧ q_N h.1 d = 4 ∧ wr ad d 0 (1000) := by
  obtain ⟨q, hq, rfl⟩ := lay_cel L (by rw [ka]; decide)
  rw [lay_knd L hq] at ka
  have H : ∀ i : Fin 128, knd i.val = 11 → i.val = 0 := by decide +kernel
  obtain rfl : q = 0 := H ⟨q, hq⟩ ka
  rw [fO_0_11 L] at hb
  obtain rfl := Option.some.inj hb
  rcases (show i = 0 ∨ i = 1 ∨ i = 2 by omega) with rfl | rfl | rfl
  · exact ⟨_, fE_55_0 L, (lay_knd L (by decide)).trans (by decide), fN_56 L, 56, by decide, rfl, br_56 L⟩
  · exact ⟨_, fE_55_1 L, (lay_knd L (by decide)).trans (by decide), fN_57 L, 57, by decide, rfl, br_57 L⟩
  · exact ⟨_, fE_55_2 L, (lay_knd L (by decide)).trans (by decide), fN_58 L, 58, by decide, rfl, br_58 L⟩
end
section
/-! 58.kX8 (by gen_safe.py) -/
set_option maxHeartbeats 4000000 in
theorem k_X8_clear {ad : List Nat} {h : hp} (L : Lay TLx ad h) {δ0 : dp} {N : Nat} (hN : 10000000 ≤ N) {a0 : Nat} (k_a0 : q_K h.1 a0 = 8) {δ : dp} (I : CI ad h.1 δ0 δ) : ok (D_X8_clear N h.1 a0 δ) (fun r => CI ad h.1 δ0 r ∧ (kp [(8, 2), (8, 3)] δ r ∧ q_V r = q_V δ ∧ q_R r = q_R δ) ∧ (q_I r 8 2 a0).toInt = 0) := by
  unfold D_X8_clear
  have f4 := cb_8_2 I k_a0
  refine ok_bdv (fun d1 e2 => ?_)
  have i3 : CI ad h.1 δ0 d1 := by rw [e2]; exact cs_8_2 L I k_a0 (show 0 ≤ (0 : Int) by omega) (show (0 : Int) ≤ (q_I δ 8 2 a0).toInt by omega)
  have u5 := kp_I kp_r e2
  have v6 : q_V d1 = q_V δ := ((show q_V d1 = q_V δ by rw [e2]; rfl)).trans rfl
  have v7 : q_R d1 = q_R δ := ((show q_R d1 = q_R δ by rw [e2]; rfl)).trans rfl
  refine ok_bdv (fun d8 e9 => ?_)
  have i10 : CI ad h.1 δ0 d8 := by rw [e9]; exact cs_8_3 L i3 k_a0 (show 0 ≤ (0 : Int) by omega) (show (0 : Int) ≤ 1 by omega)
  have u11 := kp_I u5 e9
  have v12 : q_V d8 = q_V δ := ((show q_V d8 = q_V d1 by rw [e9]; rfl)).trans v6
  have v13 : q_R d8 = q_R δ := ((show q_R d8 = q_R d1 by rw [e9]; rfl)).trans v7
  have f14 : (q_I d8 8 2 a0).toInt = (q_I d1 8 2 a0).toInt := congrArg Int32.toInt (by rw [e9]; exact rI_o (by decide))
  have f15 := cb_8_2 i3 k_a0
  have f16 : (q_I d1 8 2 a0).toInt = (0 : Int) := congrArg Int32.toInt (show q_I d1 8 2 a0 = (0 : Int32) by rw [e2]; exact rI_s)
  exact ok_some (show CI ad h.1 δ0 d8 ∧ (kp [(8, 2), (8, 3)] δ d8 ∧ q_V d8 = q_V δ ∧ q_R d8 = q_R δ) ∧ (q_I d8 8 2 a0).toInt = 0 from ⟨i10, ⟨kp_w (by decide) u11, v12, v13⟩, by first | with_reducible assumption | omega⟩)
set_option maxHeartbeats 4000000 in
theorem k_X8_add {ad : List Nat} {h : hp} (L : Lay TLx ad h) {δ0 : dp} {N : Nat} (hN : 10000000 ≤ N) {a0 : Nat} {x1 : Int32} {x2 : Int32} (k_a0 : q_K h.1 a0 = 8) {δ : dp} (z0 : 0 ≤ (x2).toInt) (z1 : (x1).toInt = 1 → (x2).toInt < 4) (z2 : (x1).toInt = 11 → (q_I δ 8 2 a0).toInt < 500 → (x2).toInt < 500) (I : CI ad h.1 δ0 δ) : ok (D_X8_add N h.1 a0 x1 x2 δ) (fun r => CI ad h.1 δ0 r ∧ (kp [(8, 2), (8, 3)] δ r ∧ q_V r = q_V δ ∧ q_R r (Ad ad 7) = q_R δ (Ad ad 7)) ∧ (q_I δ 8 2 a0).toInt ≤ (q_I r 8 2 a0).toInt) := by
  unfold D_X8_add
  have f1 := ti_b x2
  have f2 := ti_b x1
  have f3 := cb_8_2 I k_a0
  refine ok_ite (fun h4 => ?_) (fun h4 => ?_)
  · have c5 : (500 : Int) ≤ (q_I δ 8 2 a0).toInt := o_le h4
    unfold J_X8_add_40
    have f6 := cb_8_3 I k_a0
    refine ok_ite (fun h7 => ?_) (fun h7 => ?_)
    · have c8 : (q_I δ 8 3 a0).toInt = (0 : Int) := o_eq h7
      refine ok_ite (fun h9 => ?_) (fun h9 => ?_)
      · have c10 : x1.toInt = (4 : Int) := o_eq h9
        unfold J_X8_add_53
        unfold J_X8_add_58
        refine ok_gp (by decide) ?_
        refine ok_bdv (fun d11 e12 => ?_)
        have i13 : CI ad h.1 δ0 d11 := by rw [e12]; exact cs_8_3 L I k_a0 (show 0 ≤ (1 : Int) by omega) (show (1 : Int) ≤ 1 by omega)
        have u14 := kp_I kp_r e12
        have v15 : q_V d11 = q_V δ := ((show q_V d11 = q_V δ by rw [e12]; rfl)).trans rfl
        have v16 : q_R d11 (Ad ad 7) = q_R δ (Ad ad 7) := ((show q_R d11 (Ad ad 7) = q_R δ (Ad ad 7) by rw [e12]; rfl)).trans rfl
        have f17 : (q_I d11 8 2 a0).toInt = (q_I δ 8 2 a0).toInt := congrArg Int32.toInt (by rw [e12]; exact rI_o (by decide))
        exact ok_some (show CI ad h.1 δ0 d11 ∧ (kp [(8, 2), (8, 3)] δ d11 ∧ q_V d11 = q_V δ ∧ q_R d11 (Ad ad 7) = q_R δ (Ad ad 7)) ∧ (q_I δ 8 2 a0).toInt ≤ (q_I d11 8 2 a0).toInt from ⟨i13, ⟨kp_w (by decide) u14, v15, v16⟩, by first | with_reducible assumption | omega⟩)
      · have c18 : x1.toInt ≠ (4 : Int) := o_ne h9
        unfold J_X8_add_58
        refine ok_gp (by decide) ?_
        refine ok_bdv (fun d19 e20 => ?_)
        have i21 : CI ad h.1 δ0 d19 := by rw [e20]; exact cs_8_3 L I k_a0 (show 0 ≤ (0 : Int) by omega) (show (0 : Int) ≤ 1 by omega)
        have u22 := kp_I kp_r e20
        have v23 : q_V d19 = q_V δ := ((show q_V d19 = q_V δ by rw [e20]; rfl)).trans rfl
        have v24 : q_R d19 (Ad ad 7) = q_R δ (Ad ad 7) := ((show q_R d19 (Ad ad 7) = q_R δ (Ad ad 7) by rw [e20]; rfl)).trans rfl
        have f25 : (q_I d19 8 2 a0).toInt = (q_I δ 8 2 a0).toInt := congrArg Int32.toInt (by rw [e20]; exact rI_o (by decide))
        exact ok_some (show CI ad h.1 δ0 d19 ∧ (kp [(8, 2), (8, 3)] δ d19 ∧ q_V d19 = q_V δ ∧ q_R d19 (Ad ad 7) = q_R δ (Ad ad 7)) ∧ (q_I δ 8 2 a0).toInt ≤ (q_I d19 8 2 a0).toInt from ⟨i21, ⟨kp_w (by decide) u22, v23, v24⟩, by first | with_reducible assumption | omega⟩)
    · have c26 : (q_I δ 8 3 a0).toInt ≠ (0 : Int) := o_ne h7
      unfold J_X8_add_53
      unfold J_X8_add_58
      refine ok_gp (by decide) ?_
      refine ok_bdv (fun d27 e28 => ?_)
      have i29 : CI ad h.1 δ0 d27 := by rw [e28]; exact cs_8_3 L I k_a0 (show 0 ≤ (1 : Int) by omega) (show (1 : Int) ≤ 1 by omega)
      have u30 := kp_I kp_r e28
      have v31 : q_V d27 = q_V δ := ((show q_V d27 = q_V δ by rw [e28]; rfl)).trans rfl
      have v32 : q_R d27 (Ad ad 7) = q_R δ (Ad ad 7) := ((show q_R d27 (Ad ad 7) = q_R δ (Ad ad 7) by rw [e28]; rfl)).trans rfl
      have f33 : (q_I d27 8 2 a0).toInt = (q_I δ 8 2 a0).toInt := congrArg Int32.toInt (by rw [e28]; exact rI_o (by decide))
      exact ok_some (show CI ad h.1 δ0 d27 ∧ (kp [(8, 2), (8, 3)] δ d27 ∧ q_V d27 = q_V δ ∧ q_R d27 (Ad ad 7) = q_R δ (Ad ad 7)) ∧ (q_I δ 8 2 a0).toInt ≤ (q_I d27 8 2 a0).toInt from ⟨i29, ⟨kp_w (by decide) u30, v31, v32⟩, by first | with_reducible assumption | omega⟩)
  · have c34 : (q_I δ 8 2 a0).toInt < (500 : Int) := o_nle h4
    obtain ⟨b35, o36, k37, n38⟩ := gO_8_0 L k_a0
    refine ok_at o36 ?_
    have t39 := ti_tn (q_I δ 8 2 a0)
    refine ok_gd (fun hc40 => ?_) ?_
    · rcases hc40 with hc40 | hc40
      · have c41 : (q_I δ 8 2 a0).toInt < (0 : Int) := o_lt hc40
        omega
      · omega
    refine ok_bdv (fun d42 e43 => ?_)
    have u45 := kp_N kp_r (show q_I d42 = q_I δ by rw [e43]; rfl)
    have v46 : q_V d42 = q_V δ := ((show q_V d42 = q_V δ by rw [e43]; rfl)).trans rfl
    have v47 : q_R d42 (Ad ad 7) = q_R δ (Ad ad 7) := ((show q_R d42 (Ad ad 7) = q_R δ (Ad ad 7) by rw [e43]; exact rR_o (th_n7 L k_a0 o36))).trans rfl
    obtain ⟨b48, o49, k50, n51⟩ := gO_8_1 L k_a0
    refine ok_at o49 ?_
    have f52 : (q_I d42 8 2 a0).toInt = (q_I δ 8 2 a0).toInt := congrArg Int32.toInt (by rw [e43]; rfl)
    have t53 := ti_tn (q_I d42 8 2 a0)
    refine ok_gd (fun hc54 => ?_) ?_
    · rcases hc54 with hc54 | hc54
      · have c55 : (q_I d42 8 2 a0).toInt < (0 : Int) := o_lt hc54
        omega
      · omega
    refine ok_bdv (fun d56 e57 => ?_)
    have u59 := kp_N u45 (show q_I d56 = q_I d42 by rw [e57]; rfl)
    have v60 : q_V d56 = q_V δ := ((show q_V d56 = q_V d42 by rw [e57]; rfl)).trans v46
    have v61 : q_R d56 (Ad ad 7) = q_R δ (Ad ad 7) := ((show q_R d56 (Ad ad 7) = q_R d42 (Ad ad 7) by rw [e57]; exact rR_o (th_n7v L k_a0 o49))).trans v47
    have f65 : (q_I d56 8 2 a0).toInt = (q_I d42 8 2 a0).toInt := congrArg Int32.toInt (by rw [e57]; rfl)
    first | (have q67 := te_addc (c := 1) (n := 1) rfl (q_I d56 8 2 a0) (by omega) (by omega); obtain ⟨f68, f69, f70⟩ := q67) | (obtain ⟨q67, f68, f69, f70⟩ := ti_addc (c := 1) (n := 1) rfl (q_I d56 8 2 a0))
    refine ok_bdv (fun d62 e63 => ?_)
    have i64 : CI ad h.1 δ0 d62 := by subst e63; subst e57; subst e43; exact th_add L I k_a0 o36 o49 ⟨by first | with_reducible assumption | omega, fun z => z1 (o_eq z), fun z => z2 (o_eq z) (by omega)⟩ (by omega) rfl (by omega) (by omega)
    have u71 := kp_I u59 e63
    have v72 : q_V d62 = q_V δ := ((show q_V d62 = q_V d56 by rw [e63]; rfl)).trans v60
    have v73 : q_R d62 (Ad ad 7) = q_R δ (Ad ad 7) := ((show q_R d62 (Ad ad 7) = q_R d56 (Ad ad 7) by rw [e63]; rfl)).trans v61
    unfold J_X8_add_40
    have f74 : (q_I d62 8 3 a0).toInt = (q_I δ 8 3 a0).toInt := ((show (q_I d62 8 3 a0).toInt = (q_I d56 8 3 a0).toInt from congrArg Int32.toInt (by rw [e63]; exact rI_o (by decide))).trans ((show (q_I d56 8 3 a0).toInt = (q_I d42 8 3 a0).toInt from congrArg Int32.toInt (by rw [e57]; rfl)).trans (show (q_I d42 8 3 a0).toInt = (q_I δ 8 3 a0).toInt from congrArg Int32.toInt (by rw [e43]; rfl))))
    have f75 := cb_8_3 I k_a0
    refine ok_ite (fun h76 => ?_) (fun h76 => ?_)
    · have c77 : (q_I d62 8 3 a0).toInt = (0 : Int) := o_eq h76
      refine ok_ite (fun h78 => ?_) (fun h78 => ?_)
      · have c79 : x1.toInt = (4 : Int) := o_eq h78
        unfold J_X8_add_53
        unfold J_X8_add_58
        refine ok_gp (by decide) ?_
        refine ok_bdv (fun d80 e81 => ?_)
        have i82 : CI ad h.1 δ0 d80 := by rw [e81]; exact cs_8_3 L i64 k_a0 (show 0 ≤ (1 : Int) by omega) (show (1 : Int) ≤ 1 by omega)
        have u83 := kp_I u71 e81
        have v84 : q_V d80 = q_V δ := ((show q_V d80 = q_V d62 by rw [e81]; rfl)).trans v72
        have v85 : q_R d80 (Ad ad 7) = q_R δ (Ad ad 7) := ((show q_R d80 (Ad ad 7) = q_R d62 (Ad ad 7) by rw [e81]; rfl)).trans v73
        have f86 : (q_I d80 8 2 a0).toInt = (q_I d62 8 2 a0).toInt := congrArg Int32.toInt (by rw [e81]; exact rI_o (by decide))
        have f87 := cb_8_2 i64 k_a0
        have f88 : (q_I d62 8 2 a0).toInt = ((q_I d56 8 2 a0) + (1 : Int32)).toInt := congrArg Int32.toInt (show q_I d62 8 2 a0 = ((q_I d56 8 2 a0) + (1 : Int32)) by rw [e63]; exact rI_s)
        exact ok_some (show CI ad h.1 δ0 d80 ∧ (kp [(8, 2), (8, 3)] δ d80 ∧ q_V d80 = q_V δ ∧ q_R d80 (Ad ad 7) = q_R δ (Ad ad 7)) ∧ (q_I δ 8 2 a0).toInt ≤ (q_I d80 8 2 a0).toInt from ⟨i82, ⟨kp_w (by decide) u83, v84, v85⟩, by first | with_reducible assumption | omega⟩)
      · have c89 : x1.toInt ≠ (4 : Int) := o_ne h78
        unfold J_X8_add_58
        refine ok_gp (by decide) ?_
        refine ok_bdv (fun d90 e91 => ?_)
        have i92 : CI ad h.1 δ0 d90 := by rw [e91]; exact cs_8_3 L i64 k_a0 (show 0 ≤ (0 : Int) by omega) (show (0 : Int) ≤ 1 by omega)
        have u93 := kp_I u71 e91
        have v94 : q_V d90 = q_V δ := ((show q_V d90 = q_V d62 by rw [e91]; rfl)).trans v72
        have v95 : q_R d90 (Ad ad 7) = q_R δ (Ad ad 7) := ((show q_R d90 (Ad ad 7) = q_R d62 (Ad ad 7) by rw [e91]; rfl)).trans v73
        have f96 : (q_I d90 8 2 a0).toInt = (q_I d62 8 2 a0).toInt := congrArg Int32.toInt (by rw [e91]; exact rI_o (by decide))
        have f97 := cb_8_2 i64 k_a0
        have f98 : (q_I d62 8 2 a0).toInt = ((q_I d56 8 2 a0) + (1 : Int32)).toInt := congrArg Int32.toInt (show q_I d62 8 2 a0 = ((q_I d56 8 2 a0) + (1 : Int32)) by rw [e63]; exact rI_s)
        exact ok_some (show CI ad h.1 δ0 d90 ∧ (kp [(8, 2), (8, 3)] δ d90 ∧ q_V d90 = q_V δ ∧ q_R d90 (Ad ad 7) = q_R δ (Ad ad 7)) ∧ (q_I δ 8 2 a0).toInt ≤ (q_I d90 8 2 a0).toInt from ⟨i92, ⟨kp_w (by decide) u93, v94, v95⟩, by first | with_reducible assumption | omega⟩)
    · have c99 : (q_I d62 8 3 a0).toInt ≠ (0 : Int) := o_ne h76
      unfold J_X8_add_53
      unfold J_X8_add_58
      refine ok_gp (by decide) ?_
      refine ok_bdv (fun d100 e101 => ?_)
      have i102 : CI ad h.1 δ0 d100 := by rw [e101]; exact cs_8_3 L i64 k_a0 (show 0 ≤ (1 : Int) by omega) (show (1 : Int) ≤ 1 by omega)
      have u103 := kp_I u71 e101
      have v104 : q_V d100 = q_V δ := ((show q_V d100 = q_V d62 by rw [e101]; rfl)).trans v72
      have v105 : q_R d100 (Ad ad 7) = q_R δ (Ad ad 7) := ((show q_R d100 (Ad ad 7) = q_R d62 (Ad ad 7) by rw [e101]; rfl)).trans v73
      have f106 : (q_I d100 8 2 a0).toInt = (q_I d62 8 2 a0).toInt := congrArg Int32.toInt (by rw [e101]; exact rI_o (by decide))
      have f107 := cb_8_2 i64 k_a0
      have f108 : (q_I d62 8 2 a0).toInt = ((q_I d56 8 2 a0) + (1 : Int32)).toInt := congrArg Int32.toInt (show q_I d62 8 2 a0 = ((q_I d56 8 2 a0) + (1 : Int32)) by rw [e63]; exact rI_s)
      exact ok_some (show CI ad h.1 δ0 d100 ∧ (kp [(8, 2), (8, 3)] δ d100 ∧ q_V d100 = q_V δ ∧ q_R d100 (Ad ad 7) = q_R δ (Ad ad 7)) ∧ (q_I δ 8 2 a0).toInt ≤ (q_I d100 8 2 a0).toInt from ⟨i102, ⟨kp_w (by decide) u103, v104, v105⟩, by first | with_reducible assumption | omega⟩)
end
section
/-! 59.kX6 (by gen_safe.py) -/
set_option maxHeartbeats 4000000 in
theorem k_X6_readValue {ad : List Nat} {h : hp} (L : Lay TLx ad h) {δ0 : dp} {N : Nat} (hN : 10000000 ≤ N) {a0 : Nat} {a1 : Nat} {x2 : Int32} (k_a0 : q_K h.1 a0 = 6) (k_a1 : q_K h.1 a1 = 7) {δ : dp} (z0 : (q_I δ 7 5 a1).toInt = 0 → 2 ≤ (q_I δ 6 0 a0).toInt ∧ (q_I δ 6 0 a0).toInt ≤ 16 ∧ 1 ≤ (q_I δ 6 2 a0).toInt ∧ (q_I δ 6 2 a0).toInt ≤ 5) (I : CI ad h.1 δ0 δ) : ok (D_X6_readValue N h.1 a0 a1 x2 δ) (fun r => CI ad h.1 δ0 r ∧ (kp [(6, 0), (6, 1), (6, 2), (7, 3), (7, 4), (7, 5), (7, 6)] δ r ∧ q_V r = q_V δ ∧ q_R r = q_R δ) ∧ ((q_I r 7 5 a1).toInt = 0 → 2 ≤ (q_I r 6 0 a0).toInt ∧ (q_I r 6 0 a0).toInt ≤ 16 ∧ 1 ≤ (q_I r 6 2 a0).toInt ∧ (q_I r 6 2 a0).toInt ≤ 5)) := by
  unfold D_X6_readValue
  have f1 := ti_b (q_I δ 7 5 a1)
  have f2 := ti_b (q_I δ 6 0 a0)
  have f3 := ti_b (q_I δ 6 2 a0)
  have f4 := ti_b x2
  refine ok_ite (fun h5 => ?_) (fun h5 => ?_)
  · have c6 : x2.toInt = (0 : Int) := o_eq h5
    refine ok_bind (k_X7_readNumber L hN (a0 := a1) (x1 := (2 : Int32)) (x2 := (16 : Int32)) k_a1 I) (fun r7 hr8 => ?_)
    obtain ⟨i9, ⟨u14, u15, u16⟩, p10, p11, p12, p13⟩ := hr8
    have u17 := kp_t kp_r u14
    have v18 : q_V r7.2 = q_V δ := (u15).trans rfl
    have v19 : q_R r7.2 = q_R δ := (u16).trans rfl
    have f20 := ti_b r7.1
    have f21 := ti_b (q_I r7.2 7 5 a1)
    replace p13 : ((q_I r7.2 7 5 a1).toInt = 0 → (2 : Int) ≤ (r7.1).toInt ∧ (r7.1).toInt ≤ (16 : Int)) := p13
    refine ok_bdv (fun d22 e23 => ?_)
    have i24 : CI ad h.1 δ0 d22 := by rw [e23]; exact cs_6_0 L i9
    have u25 := kp_I u17 e23
    have v26 : q_V d22 = q_V δ := ((show q_V d22 = q_V r7.2 by rw [e23]; rfl)).trans v18
    have v27 : q_R d22 = q_R δ := ((show q_R d22 = q_R r7.2 by rw [e23]; rfl)).trans v19
    unfold J_X6_readValue_71
    have f28 : (q_I d22 7 5 a1).toInt = (q_I r7.2 7 5 a1).toInt := congrArg Int32.toInt (by rw [e23]; exact rI_o (by decide))
    have f29 := ti_b (q_I d22 6 0 a0)
    have f30 : (q_I d22 6 0 a0).toInt = r7.1.toInt := congrArg Int32.toInt (show q_I d22 6 0 a0 = r7.1 by rw [e23]; exact rI_s)
    have f31 : (q_I d22 6 2 a0).toInt = (q_I δ 6 2 a0).toInt := ((show (q_I d22 6 2 a0).toInt = (q_I r7.2 6 2 a0).toInt from congrArg Int32.toInt (by rw [e23]; exact rI_o (by decide))).trans (show (q_I r7.2 6 2 a0).toInt = (q_I δ 6 2 a0).toInt from congrArg Int32.toInt (u14 6 2 a0 (by decide))))
    exact ok_some (show CI ad h.1 δ0 d22 ∧ (kp [(6, 0), (6, 1), (6, 2), (7, 3), (7, 4), (7, 5), (7, 6)] δ d22 ∧ q_V d22 = q_V δ ∧ q_R d22 = q_R δ) ∧ ((q_I d22 7 5 a1).toInt = 0 → 2 ≤ (q_I d22 6 0 a0).toInt ∧ (q_I d22 6 0 a0).toInt ≤ 16 ∧ 1 ≤ (q_I d22 6 2 a0).toInt ∧ (q_I d22 6 2 a0).toInt ≤ 5) from ⟨i24, ⟨kp_w (by decide) u25, v26, v27⟩, by first | with_reducible assumption | omega⟩)
  · have c32 : x2.toInt ≠ (0 : Int) := o_ne h5
    refine ok_ite (fun h33 => ?_) (fun h33 => ?_)
    · have c34 : x2.toInt = (2 : Int) := o_eq h33
      refine ok_bind (k_X7_readNumber L hN (a0 := a1) (x1 := (1 : Int32)) (x2 := (5 : Int32)) k_a1 I) (fun r35 hr36 => ?_)
      obtain ⟨i37, ⟨u42, u43, u44⟩, p38, p39, p40, p41⟩ := hr36
      have u45 := kp_t kp_r u42
      have v46 : q_V r35.2 = q_V δ := (u43).trans rfl
      have v47 : q_R r35.2 = q_R δ := (u44).trans rfl
      have f48 := ti_b r35.1
      have f49 := ti_b (q_I r35.2 7 5 a1)
      replace p41 : ((q_I r35.2 7 5 a1).toInt = 0 → (1 : Int) ≤ (r35.1).toInt ∧ (r35.1).toInt ≤ (5 : Int)) := p41
      refine ok_bdv (fun d50 e51 => ?_)
      have i52 : CI ad h.1 δ0 d50 := by rw [e51]; exact cs_6_2 L i37
      have u53 := kp_I u45 e51
      have v54 : q_V d50 = q_V δ := ((show q_V d50 = q_V r35.2 by rw [e51]; rfl)).trans v46
      have v55 : q_R d50 = q_R δ := ((show q_R d50 = q_R r35.2 by rw [e51]; rfl)).trans v47
      unfold J_X6_readValue_71
      have f56 : (q_I d50 7 5 a1).toInt = (q_I r35.2 7 5 a1).toInt := congrArg Int32.toInt (by rw [e51]; exact rI_o (by decide))
      have f57 : (q_I d50 6 0 a0).toInt = (q_I δ 6 0 a0).toInt := ((show (q_I d50 6 0 a0).toInt = (q_I r35.2 6 0 a0).toInt from congrArg Int32.toInt (by rw [e51]; exact rI_o (by decide))).trans (show (q_I r35.2 6 0 a0).toInt = (q_I δ 6 0 a0).toInt from congrArg Int32.toInt (u42 6 0 a0 (by decide))))
      have f58 := ti_b (q_I d50 6 2 a0)
      have f59 : (q_I d50 6 2 a0).toInt = r35.1.toInt := congrArg Int32.toInt (show q_I d50 6 2 a0 = r35.1 by rw [e51]; exact rI_s)
      exact ok_some (show CI ad h.1 δ0 d50 ∧ (kp [(6, 0), (6, 1), (6, 2), (7, 3), (7, 4), (7, 5), (7, 6)] δ d50 ∧ q_V d50 = q_V δ ∧ q_R d50 = q_R δ) ∧ ((q_I d50 7 5 a1).toInt = 0 → 2 ≤ (q_I d50 6 0 a0).toInt ∧ (q_I d50 6 0 a0).toInt ≤ 16 ∧ 1 ≤ (q_I d50 6 2 a0).toInt ∧ (q_I d50 6 2 a0).toInt ≤ 5) from ⟨i52, ⟨kp_w (by decide) u53, v54, v55⟩, by first | with_reducible assumption | omega⟩)
    · have c60 : x2.toInt ≠ (2 : Int) := o_ne h33
      refine ok_bind (k_X7_readWord L hN (a0 := a1) k_a1 I) (fun r61 hr62 => ?_)
      obtain ⟨i63, ⟨u64, u65, u66⟩⟩ := hr62
      have u67 := kp_t kp_r u64
      have v68 : q_V r61 = q_V δ := (u65).trans rfl
      have v69 : q_R r61 = q_R δ := (u66).trans rfl
      refine ok_bind (k_X7_wordIs L hN (a0 := a1) (a1 := 3) k_a1 (show 3 < 16 by first | with_reducible assumption | omega) i63) (fun r70 hr71 => ?_)
      obtain ⟨i72, p73⟩ := hr71
      try rw [i72]
      have f74 := bo_t p73
      have f75 := ti_b r70.1
      refine ok_gp (show bo r70.1 by first | assumption | exact bo_0 | exact bo_1) ?_
      refine ok_bdv (fun d76 e77 => ?_)
      have i78 : CI ad h.1 δ0 d76 := by rw [e77]; exact cs_6_1 L i63 k_a0 (show 0 ≤ r70.1.toInt by omega) (show r70.1.toInt ≤ 1 by omega)
      have u79 := kp_I u67 e77
      have v80 : q_V d76 = q_V δ := ((show q_V d76 = q_V r61 by rw [e77]; rfl)).trans v68
      have v81 : q_R d76 = q_R δ := ((show q_R d76 = q_R r61 by rw [e77]; rfl)).trans v69
      have f82 := cb_6_1 i78 k_a0
      have f83 : (q_I d76 6 1 a0).toInt = r70.1.toInt := congrArg Int32.toInt (show q_I d76 6 1 a0 = r70.1 by rw [e77]; exact rI_s)
      refine ok_ite (fun h84 => ?_) (fun h84 => ?_)
      · have c85 : (q_I d76 6 1 a0).toInt = (0 : Int) := o_eq h84
        refine ok_bind (k_X7_wordIs L hN (a0 := a1) (a1 := 4) k_a1 (show 4 < 16 by first | with_reducible assumption | omega) i78) (fun r86 hr87 => ?_)
        obtain ⟨i88, p89⟩ := hr87
        try rw [i88]
        have f90 := bo_t p89
        have f91 := ti_b r86.1
        refine ok_ite (fun h92 => ?_) (fun h92 => ?_)
        · have c93 : r86.1.toInt = (0 : Int) := o_eq h92
          refine ok_bind (k_X7_refuse L hN (a0 := a1) (x1 := (1 : Int32)) k_a1 (show (1 : Int) ≠ 0 by first | with_reducible assumption | omega) i78) (fun r94 hr95 => ?_)
          obtain ⟨i96, ⟨u98, u99, u100⟩, p97⟩ := hr95
          have u101 := kp_t u79 u98
          have v102 : q_V r94 = q_V δ := (u99).trans v80
          have v103 : q_R r94 = q_R δ := (u100).trans v81
          have f104 := ti_b (q_I r94 7 5 a1)
          unfold J_X6_readValue_71
          have f105 : (q_I r94 6 0 a0).toInt = (q_I δ 6 0 a0).toInt := ((show (q_I r94 6 0 a0).toInt = (q_I d76 6 0 a0).toInt from congrArg Int32.toInt (u98 6 0 a0 (by decide))).trans ((show (q_I d76 6 0 a0).toInt = (q_I r61 6 0 a0).toInt from congrArg Int32.toInt (by rw [e77]; exact rI_o (by decide))).trans (show (q_I r61 6 0 a0).toInt = (q_I δ 6 0 a0).toInt from congrArg Int32.toInt (u64 6 0 a0 (by decide)))))
          have f106 : (q_I r94 6 2 a0).toInt = (q_I δ 6 2 a0).toInt := ((show (q_I r94 6 2 a0).toInt = (q_I d76 6 2 a0).toInt from congrArg Int32.toInt (u98 6 2 a0 (by decide))).trans ((show (q_I d76 6 2 a0).toInt = (q_I r61 6 2 a0).toInt from congrArg Int32.toInt (by rw [e77]; exact rI_o (by decide))).trans (show (q_I r61 6 2 a0).toInt = (q_I δ 6 2 a0).toInt from congrArg Int32.toInt (u64 6 2 a0 (by decide)))))
          exact ok_some (show CI ad h.1 δ0 r94 ∧ (kp [(6, 0), (6, 1), (6, 2), (7, 3), (7, 4), (7, 5), (7, 6)] δ r94 ∧ q_V r94 = q_V δ ∧ q_R r94 = q_R δ) ∧ ((q_I r94 7 5 a1).toInt = 0 → 2 ≤ (q_I r94 6 0 a0).toInt ∧ (q_I r94 6 0 a0).toInt ≤ 16 ∧ 1 ≤ (q_I r94 6 2 a0).toInt ∧ (q_I r94 6 2 a0).toInt ≤ 5) from ⟨i96, ⟨kp_w (by decide) u101, v102, v103⟩, by first | with_reducible assumption | omega⟩)
        · have c107 : r86.1.toInt ≠ (0 : Int) := o_ne h92
          unfold J_X6_readValue_71
          have f108 : (q_I d76 7 5 a1).toInt = (q_I δ 7 5 a1).toInt := ((show (q_I d76 7 5 a1).toInt = (q_I r61 7 5 a1).toInt from congrArg Int32.toInt (by rw [e77]; exact rI_o (by decide))).trans (show (q_I r61 7 5 a1).toInt = (q_I δ 7 5 a1).toInt from congrArg Int32.toInt (u64 7 5 a1 (by decide))))
          have f109 : (q_I d76 6 0 a0).toInt = (q_I δ 6 0 a0).toInt := ((show (q_I d76 6 0 a0).toInt = (q_I r61 6 0 a0).toInt from congrArg Int32.toInt (by rw [e77]; exact rI_o (by decide))).trans (show (q_I r61 6 0 a0).toInt = (q_I δ 6 0 a0).toInt from congrArg Int32.toInt (u64 6 0 a0 (by decide))))
          have f110 : (q_I d76 6 2 a0).toInt = (q_I δ 6 2 a0).toInt := ((show (q_I d76 6 2 a0).toInt = (q_I r61 6 2 a0).toInt from congrArg Int32.toInt (by rw [e77]; exact rI_o (by decide))).trans (show (q_I r61 6 2 a0).toInt = (q_I δ 6 2 a0).toInt from congrArg Int32.toInt (u64 6 2 a0 (by decide))))
          exact ok_some (show CI ad h.1 δ0 d76 ∧ (kp [(6, 0), (6, 1), (6, 2), (7, 3), (7, 4), (7, 5), (7, 6)] δ d76 ∧ q_V d76 = q_V δ ∧ q_R d76 = q_R δ) ∧ ((q_I d76 7 5 a1).toInt = 0 → 2 ≤ (q_I d76 6 0 a0).toInt ∧ (q_I d76 6 0 a0).toInt ≤ 16 ∧ 1 ≤ (q_I d76 6 2 a0).toInt ∧ (q_I d76 6 2 a0).toInt ≤ 5) from ⟨i78, ⟨kp_w (by decide) u79, v80, v81⟩, by first | with_reducible assumption | omega⟩)
      · have c111 : (q_I d76 6 1 a0).toInt ≠ (0 : Int) := o_ne h84
        unfold J_X6_readValue_71
        have f112 : (q_I d76 7 5 a1).toInt = (q_I δ 7 5 a1).toInt := ((show (q_I d76 7 5 a1).toInt = (q_I r61 7 5 a1).toInt from congrArg Int32.toInt (by rw [e77]; exact rI_o (by decide))).trans (show (q_I r61 7 5 a1).toInt = (q_I δ 7 5 a1).toInt from congrArg Int32.toInt (u64 7 5 a1 (by decide))))
        have f113 : (q_I d76 6 0 a0).toInt = (q_I δ 6 0 a0).toInt := ((show (q_I d76 6 0 a0).toInt = (q_I r61 6 0 a0).toInt from congrArg Int32.toInt (by rw [e77]; exact rI_o (by decide))).trans (show (q_I r61 6 0 a0).toInt = (q_I δ 6 0 a0).toInt from congrArg Int32.toInt (u64 6 0 a0 (by decide))))
        have f114 : (q_I d76 6 2 a0).toInt = (q_I δ 6 2 a0).toInt := ((show (q_I d76 6 2 a0).toInt = (q_I r61 6 2 a0).toInt from congrArg Int32.toInt (by rw [e77]; exact rI_o (by decide))).trans (show (q_I r61 6 2 a0).toInt = (q_I δ 6 2 a0).toInt from congrArg Int32.toInt (u64 6 2 a0 (by decide))))
        exact ok_some (show CI ad h.1 δ0 d76 ∧ (kp [(6, 0), (6, 1), (6, 2), (7, 3), (7, 4), (7, 5), (7, 6)] δ d76 ∧ q_V d76 = q_V δ ∧ q_R d76 = q_R δ) ∧ ((q_I d76 7 5 a1).toInt = 0 → 2 ≤ (q_I d76 6 0 a0).toInt ∧ (q_I d76 6 0 a0).toInt ≤ 16 ∧ 1 ≤ (q_I d76 6 2 a0).toInt ∧ (q_I d76 6 2 a0).toInt ≤ 5) from ⟨i78, ⟨kp_w (by decide) u79, v80, v81⟩, by first | with_reducible assumption | omega⟩)
set_option maxHeartbeats 4000000 in
theorem k_X6_readClause {ad : List Nat} {h : hp} (L : Lay TLx ad h) {δ0 : dp} {N : Nat} (hN : 10000000 ≤ N) {a0 : Nat} {a1 : Nat} (k_a0 : q_K h.1 a0 = 6) (k_a1 : q_K h.1 a1 = 7) {δ : dp} (z0 : (q_I δ 7 5 a1).toInt = 0 → 2 ≤ (q_I δ 6 0 a0).toInt ∧ (q_I δ 6 0 a0).toInt ≤ 16 ∧ 1 ≤ (q_I δ 6 2 a0).toInt ∧ (q_I δ 6 2 a0).toInt ≤ 5) (I : CI ad h.1 δ0 δ) : ok (D_X6_readClause N h.1 a0 a1 δ) (fun r => CI ad h.1 δ0 r ∧ (kp [(6, 0), (6, 1), (6, 2), (7, 3), (7, 4), (7, 5), (7, 6)] δ r ∧ q_V r = q_V δ) ∧ ((q_I r 7 5 a1).toInt = 0 → 2 ≤ (q_I r 6 0 a0).toInt ∧ (q_I r 6 0 a0).toInt ≤ 16 ∧ 1 ≤ (q_I r 6 2 a0).toInt ∧ (q_I r 6 2 a0).toInt ≤ 5)) := by
  unfold D_X6_readClause
  have f1 := ti_b (q_I δ 7 5 a1)
  have f2 := ti_b (q_I δ 6 0 a0)
  have f3 := ti_b (q_I δ 6 2 a0)
  refine ok_bind (k_X7_readWord L hN (a0 := a1) k_a1 I) (fun r4 hr5 => ?_)
  obtain ⟨i6, ⟨u7, u8, u9⟩⟩ := hr5
  have u10 := kp_t kp_r u7
  have v11 : q_V r4 = q_V δ := (u8).trans rfl
  refine ok_bind (k_X7_wordIs L hN (a0 := a1) (a1 := 0) k_a1 (show 0 < 16 by first | with_reducible assumption | omega) i6) (fun r12 hr13 => ?_)
  obtain ⟨i14, p15⟩ := hr13
  try rw [i14]
  have f16 := bo_t p15
  have f17 := ti_b r12.1
  refine ok_ite (fun h18 => ?_) (fun h18 => ?_)
  · have c19 : r12.1.toInt = (0 : Int) := o_eq h18
    refine ok_bind (k_X7_wordIs L hN (a0 := a1) (a1 := 1) k_a1 (show 1 < 16 by first | with_reducible assumption | omega) i6) (fun r20 hr21 => ?_)
    obtain ⟨i22, p23⟩ := hr21
    try rw [i22]
    have f24 := bo_t p23
    have f25 := ti_b r20.1
    refine ok_ite (fun h26 => ?_) (fun h26 => ?_)
    · have c27 : r20.1.toInt = (0 : Int) := o_eq h26
      refine ok_bind (k_X7_wordIs L hN (a0 := a1) (a1 := 2) k_a1 (show 2 < 16 by first | with_reducible assumption | omega) i6) (fun r28 hr29 => ?_)
      obtain ⟨i30, p31⟩ := hr29
      try rw [i30]
      have f32 := bo_t p31
      have f33 := ti_b r28.1
      refine ok_ite (fun h34 => ?_) (fun h34 => ?_)
      · have c35 : r28.1.toInt = (0 : Int) := o_eq h34
        unfold J_X6_readClause_44
        refine ok_ite (fun h36 => ?_) (fun h36 => ?_)
        · have c37 : (-1 : Int) = (-1 : Int) := o_eq h36
          refine ok_bind (k_X7_refuse L hN (a0 := a1) (x1 := (1 : Int32)) k_a1 (show (1 : Int) ≠ 0 by first | with_reducible assumption | omega) i6) (fun r38 hr39 => ?_)
          obtain ⟨i40, ⟨u42, u43, u44⟩, p41⟩ := hr39
          have u45 := kp_t u10 u42
          have v46 : q_V r38 = q_V δ := (u43).trans v11
          have f47 := ti_b (q_I r38 7 5 a1)
          unfold J_X6_readClause_94
          have f48 : (q_I r38 6 0 a0).toInt = (q_I δ 6 0 a0).toInt := ((show (q_I r38 6 0 a0).toInt = (q_I r4 6 0 a0).toInt from congrArg Int32.toInt (u42 6 0 a0 (by decide))).trans (show (q_I r4 6 0 a0).toInt = (q_I δ 6 0 a0).toInt from congrArg Int32.toInt (u7 6 0 a0 (by decide))))
          have f49 : (q_I r38 6 2 a0).toInt = (q_I δ 6 2 a0).toInt := ((show (q_I r38 6 2 a0).toInt = (q_I r4 6 2 a0).toInt from congrArg Int32.toInt (u42 6 2 a0 (by decide))).trans (show (q_I r4 6 2 a0).toInt = (q_I δ 6 2 a0).toInt from congrArg Int32.toInt (u7 6 2 a0 (by decide))))
          exact ok_some (show CI ad h.1 δ0 r38 ∧ (kp [(6, 0), (6, 1), (6, 2), (7, 3), (7, 4), (7, 5), (7, 6)] δ r38 ∧ q_V r38 = q_V δ) ∧ ((q_I r38 7 5 a1).toInt = 0 → 2 ≤ (q_I r38 6 0 a0).toInt ∧ (q_I r38 6 0 a0).toInt ≤ 16 ∧ 1 ≤ (q_I r38 6 2 a0).toInt ∧ (q_I r38 6 2 a0).toInt ≤ 5) from ⟨i40, ⟨kp_w (by decide) u45, v46⟩, by first | with_reducible assumption | omega⟩)
        · have c50 : (-1 : Int) ≠ (-1 : Int) := o_ne h36
          obtain ⟨b51, o52, k53, n54, w55⟩ := gO_6_3 L k_a0
          refine ok_at o52 ?_
          have t56 : (-1 : Int32).toNatClampNeg = 0 := rfl
          refine ok_gd (fun hc57 => ?_) ?_
          · rcases hc57 with hc57 | hc57
            · have c58 : (-1 : Int) < (0 : Int) := o_lt hc57
              omega
            · omega
          have f59 := ti_b (q_R r4 b51 (-1 : Int32).toNatClampNeg)
          refine ok_ite (fun h60 => ?_) (fun h60 => ?_)
          · have c61 : (q_R r4 b51 (-1 : Int32).toNatClampNeg).toInt = (0 : Int) := o_eq h60
            refine ok_at o52 ?_
            refine ok_gd (fun hc62 => ?_) ?_
            · rcases hc62 with hc62 | hc62
              · have c63 : (-1 : Int) < (0 : Int) := o_lt hc62
                omega
              · omega
            refine ok_bdv (fun d64 e65 => ?_)
            have i66 : CI ad h.1 δ0 d64 := by rw [e65]; exact CI.sR L i6 w55
            have u67 := kp_N u10 (show q_I d64 = q_I r4 by rw [e65]; rfl)
            have v68 : q_V d64 = q_V δ := ((show q_V d64 = q_V r4 by rw [e65]; rfl)).trans v11
            have f71 : (q_I d64 7 5 a1).toInt = (q_I δ 7 5 a1).toInt := ((show (q_I d64 7 5 a1).toInt = (q_I r4 7 5 a1).toInt from congrArg Int32.toInt (by rw [e65]; rfl)).trans (show (q_I r4 7 5 a1).toInt = (q_I δ 7 5 a1).toInt from congrArg Int32.toInt (u7 7 5 a1 (by decide))))
            have f72 : (q_I d64 6 0 a0).toInt = (q_I δ 6 0 a0).toInt := ((show (q_I d64 6 0 a0).toInt = (q_I r4 6 0 a0).toInt from congrArg Int32.toInt (by rw [e65]; rfl)).trans (show (q_I r4 6 0 a0).toInt = (q_I δ 6 0 a0).toInt from congrArg Int32.toInt (u7 6 0 a0 (by decide))))
            have f73 : (q_I d64 6 2 a0).toInt = (q_I δ 6 2 a0).toInt := ((show (q_I d64 6 2 a0).toInt = (q_I r4 6 2 a0).toInt from congrArg Int32.toInt (by rw [e65]; rfl)).trans (show (q_I r4 6 2 a0).toInt = (q_I δ 6 2 a0).toInt from congrArg Int32.toInt (u7 6 2 a0 (by decide))))
            refine ok_bind (k_X6_readValue L hN (a0 := a0) (a1 := a1) (x2 := (-1 : Int32)) k_a0 k_a1 (show (q_I d64 7 5 a1).toInt = 0 → 2 ≤ (q_I d64 6 0 a0).toInt ∧ (q_I d64 6 0 a0).toInt ≤ 16 ∧ 1 ≤ (q_I d64 6 2 a0).toInt ∧ (q_I d64 6 2 a0).toInt ≤ 5 by first | with_reducible assumption | omega) i66) (fun r69 hr70 => ?_)
            obtain ⟨i74, ⟨u76, u77, u78⟩, p75⟩ := hr70
            have u79 := kp_t u67 u76
            have v80 : q_V r69 = q_V δ := (u77).trans v68
            have f81 := ti_b (q_I r69 7 5 a1)
            have f82 := ti_b (q_I r69 6 0 a0)
            have f83 := ti_b (q_I r69 6 2 a0)
            refine ok_bind (k_X7_needSign L hN (a0 := a1) (x1 := (59 : Int32)) k_a1 (show (59 : Int) ≠ -1 by first | with_reducible assumption | omega) i74) (fun r84 hr85 => ?_)
            obtain ⟨i86, ⟨u88, u89, u90⟩, p87⟩ := hr85
            have u91 := kp_t u79 u88
            have v92 : q_V r84 = q_V δ := (u89).trans v80
            have f93 := ti_b (q_I r84 7 5 a1)
            unfold J_X6_readClause_94
            have f94 : (q_I r84 6 0 a0).toInt = (q_I r69 6 0 a0).toInt := congrArg Int32.toInt (u88 6 0 a0 (by decide))
            have f95 : (q_I r84 6 2 a0).toInt = (q_I r69 6 2 a0).toInt := congrArg Int32.toInt (u88 6 2 a0 (by decide))
            exact ok_some (show CI ad h.1 δ0 r84 ∧ (kp [(6, 0), (6, 1), (6, 2), (7, 3), (7, 4), (7, 5), (7, 6)] δ r84 ∧ q_V r84 = q_V δ) ∧ ((q_I r84 7 5 a1).toInt = 0 → 2 ≤ (q_I r84 6 0 a0).toInt ∧ (q_I r84 6 0 a0).toInt ≤ 16 ∧ 1 ≤ (q_I r84 6 2 a0).toInt ∧ (q_I r84 6 2 a0).toInt ≤ 5) from ⟨i86, ⟨kp_w (by decide) u91, v92⟩, by first | with_reducible assumption | omega⟩)
          · have c96 : (q_R r4 b51 (-1 : Int32).toNatClampNeg).toInt ≠ (0 : Int) := o_ne h60
            refine ok_bind (k_X7_refuse L hN (a0 := a1) (x1 := (4 : Int32)) k_a1 (show (4 : Int) ≠ 0 by first | with_reducible assumption | omega) i6) (fun r97 hr98 => ?_)
            obtain ⟨i99, ⟨u101, u102, u103⟩, p100⟩ := hr98
            have u104 := kp_t u10 u101
            have v105 : q_V r97 = q_V δ := (u102).trans v11
            have f106 := ti_b (q_I r97 7 5 a1)
            unfold J_X6_readClause_94
            have f107 : (q_I r97 6 0 a0).toInt = (q_I δ 6 0 a0).toInt := ((show (q_I r97 6 0 a0).toInt = (q_I r4 6 0 a0).toInt from congrArg Int32.toInt (u101 6 0 a0 (by decide))).trans (show (q_I r4 6 0 a0).toInt = (q_I δ 6 0 a0).toInt from congrArg Int32.toInt (u7 6 0 a0 (by decide))))
            have f108 : (q_I r97 6 2 a0).toInt = (q_I δ 6 2 a0).toInt := ((show (q_I r97 6 2 a0).toInt = (q_I r4 6 2 a0).toInt from congrArg Int32.toInt (u101 6 2 a0 (by decide))).trans (show (q_I r4 6 2 a0).toInt = (q_I δ 6 2 a0).toInt from congrArg Int32.toInt (u7 6 2 a0 (by decide))))
            exact ok_some (show CI ad h.1 δ0 r97 ∧ (kp [(6, 0), (6, 1), (6, 2), (7, 3), (7, 4), (7, 5), (7, 6)] δ r97 ∧ q_V r97 = q_V δ) ∧ ((q_I r97 7 5 a1).toInt = 0 → 2 ≤ (q_I r97 6 0 a0).toInt ∧ (q_I r97 6 0 a0).toInt ≤ 16 ∧ 1 ≤ (q_I r97 6 2 a0).toInt ∧ (q_I r97 6 2 a0).toInt ≤ 5) from ⟨i99, ⟨kp_w (by decide) u104, v105⟩, by first | with_reducible assumption | omega⟩)
      · have c109 : r28.1.toInt ≠ (0 : Int) := o_ne h34
        unfold J_X6_readClause_44
        refine ok_ite (fun h110 => ?_) (fun h110 => ?_)
        · have c111 : (2 : Int) = (-1 : Int) := o_eq h110
          refine ok_bind (k_X7_refuse L hN (a0 := a1) (x1 := (1 : Int32)) k_a1 (show (1 : Int) ≠ 0 by first | with_reducible assumption | omega) i6) (fun r112 hr113 => ?_)
          obtain ⟨i114, ⟨u116, u117, u118⟩, p115⟩ := hr113
          have u119 := kp_t u10 u116
          have v120 : q_V r112 = q_V δ := (u117).trans v11
          have f121 := ti_b (q_I r112 7 5 a1)
          unfold J_X6_readClause_94
          have f122 : (q_I r112 6 0 a0).toInt = (q_I δ 6 0 a0).toInt := ((show (q_I r112 6 0 a0).toInt = (q_I r4 6 0 a0).toInt from congrArg Int32.toInt (u116 6 0 a0 (by decide))).trans (show (q_I r4 6 0 a0).toInt = (q_I δ 6 0 a0).toInt from congrArg Int32.toInt (u7 6 0 a0 (by decide))))
          have f123 : (q_I r112 6 2 a0).toInt = (q_I δ 6 2 a0).toInt := ((show (q_I r112 6 2 a0).toInt = (q_I r4 6 2 a0).toInt from congrArg Int32.toInt (u116 6 2 a0 (by decide))).trans (show (q_I r4 6 2 a0).toInt = (q_I δ 6 2 a0).toInt from congrArg Int32.toInt (u7 6 2 a0 (by decide))))
          exact ok_some (show CI ad h.1 δ0 r112 ∧ (kp [(6, 0), (6, 1), (6, 2), (7, 3), (7, 4), (7, 5), (7, 6)] δ r112 ∧ q_V r112 = q_V δ) ∧ ((q_I r112 7 5 a1).toInt = 0 → 2 ≤ (q_I r112 6 0 a0).toInt ∧ (q_I r112 6 0 a0).toInt ≤ 16 ∧ 1 ≤ (q_I r112 6 2 a0).toInt ∧ (q_I r112 6 2 a0).toInt ≤ 5) from ⟨i114, ⟨kp_w (by decide) u119, v120⟩, by first | with_reducible assumption | omega⟩)
        · have c124 : (2 : Int) ≠ (-1 : Int) := o_ne h110
          obtain ⟨b125, o126, k127, n128, w129⟩ := gO_6_3 L k_a0
          refine ok_at o126 ?_
          have t130 : (2 : Int32).toNatClampNeg = 2 := rfl
          refine ok_gd (fun hc131 => ?_) ?_
          · rcases hc131 with hc131 | hc131
            · have c132 : (2 : Int) < (0 : Int) := o_lt hc131
              omega
            · omega
          have f133 := ti_b (q_R r4 b125 (2 : Int32).toNatClampNeg)
          refine ok_ite (fun h134 => ?_) (fun h134 => ?_)
          · have c135 : (q_R r4 b125 (2 : Int32).toNatClampNeg).toInt = (0 : Int) := o_eq h134
            refine ok_at o126 ?_
            refine ok_gd (fun hc136 => ?_) ?_
            · rcases hc136 with hc136 | hc136
              · have c137 : (2 : Int) < (0 : Int) := o_lt hc136
                omega
              · omega
            refine ok_bdv (fun d138 e139 => ?_)
            have i140 : CI ad h.1 δ0 d138 := by rw [e139]; exact CI.sR L i6 w129
            have u141 := kp_N u10 (show q_I d138 = q_I r4 by rw [e139]; rfl)
            have v142 : q_V d138 = q_V δ := ((show q_V d138 = q_V r4 by rw [e139]; rfl)).trans v11
            have f145 : (q_I d138 7 5 a1).toInt = (q_I δ 7 5 a1).toInt := ((show (q_I d138 7 5 a1).toInt = (q_I r4 7 5 a1).toInt from congrArg Int32.toInt (by rw [e139]; rfl)).trans (show (q_I r4 7 5 a1).toInt = (q_I δ 7 5 a1).toInt from congrArg Int32.toInt (u7 7 5 a1 (by decide))))
            have f146 : (q_I d138 6 0 a0).toInt = (q_I δ 6 0 a0).toInt := ((show (q_I d138 6 0 a0).toInt = (q_I r4 6 0 a0).toInt from congrArg Int32.toInt (by rw [e139]; rfl)).trans (show (q_I r4 6 0 a0).toInt = (q_I δ 6 0 a0).toInt from congrArg Int32.toInt (u7 6 0 a0 (by decide))))
            have f147 : (q_I d138 6 2 a0).toInt = (q_I δ 6 2 a0).toInt := ((show (q_I d138 6 2 a0).toInt = (q_I r4 6 2 a0).toInt from congrArg Int32.toInt (by rw [e139]; rfl)).trans (show (q_I r4 6 2 a0).toInt = (q_I δ 6 2 a0).toInt from congrArg Int32.toInt (u7 6 2 a0 (by decide))))
            refine ok_bind (k_X6_readValue L hN (a0 := a0) (a1 := a1) (x2 := (2 : Int32)) k_a0 k_a1 (show (q_I d138 7 5 a1).toInt = 0 → 2 ≤ (q_I d138 6 0 a0).toInt ∧ (q_I d138 6 0 a0).toInt ≤ 16 ∧ 1 ≤ (q_I d138 6 2 a0).toInt ∧ (q_I d138 6 2 a0).toInt ≤ 5 by first | with_reducible assumption | omega) i140) (fun r143 hr144 => ?_)
            obtain ⟨i148, ⟨u150, u151, u152⟩, p149⟩ := hr144
            have u153 := kp_t u141 u150
            have v154 : q_V r143 = q_V δ := (u151).trans v142
            have f155 := ti_b (q_I r143 7 5 a1)
            have f156 := ti_b (q_I r143 6 0 a0)
            have f157 := ti_b (q_I r143 6 2 a0)
            refine ok_bind (k_X7_needSign L hN (a0 := a1) (x1 := (59 : Int32)) k_a1 (show (59 : Int) ≠ -1 by first | with_reducible assumption | omega) i148) (fun r158 hr159 => ?_)
            obtain ⟨i160, ⟨u162, u163, u164⟩, p161⟩ := hr159
            have u165 := kp_t u153 u162
            have v166 : q_V r158 = q_V δ := (u163).trans v154
            have f167 := ti_b (q_I r158 7 5 a1)
            unfold J_X6_readClause_94
            have f168 : (q_I r158 6 0 a0).toInt = (q_I r143 6 0 a0).toInt := congrArg Int32.toInt (u162 6 0 a0 (by decide))
            have f169 : (q_I r158 6 2 a0).toInt = (q_I r143 6 2 a0).toInt := congrArg Int32.toInt (u162 6 2 a0 (by decide))
            exact ok_some (show CI ad h.1 δ0 r158 ∧ (kp [(6, 0), (6, 1), (6, 2), (7, 3), (7, 4), (7, 5), (7, 6)] δ r158 ∧ q_V r158 = q_V δ) ∧ ((q_I r158 7 5 a1).toInt = 0 → 2 ≤ (q_I r158 6 0 a0).toInt ∧ (q_I r158 6 0 a0).toInt ≤ 16 ∧ 1 ≤ (q_I r158 6 2 a0).toInt ∧ (q_I r158 6 2 a0).toInt ≤ 5) from ⟨i160, ⟨kp_w (by decide) u165, v166⟩, by first | with_reducible assumption | omega⟩)
          · have c170 : (q_R r4 b125 (2 : Int32).toNatClampNeg).toInt ≠ (0 : Int) := o_ne h134
            refine ok_bind (k_X7_refuse L hN (a0 := a1) (x1 := (4 : Int32)) k_a1 (show (4 : Int) ≠ 0 by first | with_reducible assumption | omega) i6) (fun r171 hr172 => ?_)
            obtain ⟨i173, ⟨u175, u176, u177⟩, p174⟩ := hr172
            have u178 := kp_t u10 u175
            have v179 : q_V r171 = q_V δ := (u176).trans v11
            have f180 := ti_b (q_I r171 7 5 a1)
            unfold J_X6_readClause_94
            have f181 : (q_I r171 6 0 a0).toInt = (q_I δ 6 0 a0).toInt := ((show (q_I r171 6 0 a0).toInt = (q_I r4 6 0 a0).toInt from congrArg Int32.toInt (u175 6 0 a0 (by decide))).trans (show (q_I r4 6 0 a0).toInt = (q_I δ 6 0 a0).toInt from congrArg Int32.toInt (u7 6 0 a0 (by decide))))
            have f182 : (q_I r171 6 2 a0).toInt = (q_I δ 6 2 a0).toInt := ((show (q_I r171 6 2 a0).toInt = (q_I r4 6 2 a0).toInt from congrArg Int32.toInt (u175 6 2 a0 (by decide))).trans (show (q_I r4 6 2 a0).toInt = (q_I δ 6 2 a0).toInt from congrArg Int32.toInt (u7 6 2 a0 (by decide))))
            exact ok_some (show CI ad h.1 δ0 r171 ∧ (kp [(6, 0), (6, 1), (6, 2), (7, 3), (7, 4), (7, 5), (7, 6)] δ r171 ∧ q_V r171 = q_V δ) ∧ ((q_I r171 7 5 a1).toInt = 0 → 2 ≤ (q_I r171 6 0 a0).toInt ∧ (q_I r171 6 0 a0).toInt ≤ 16 ∧ 1 ≤ (q_I r171 6 2 a0).toInt ∧ (q_I r171 6 2 a0).toInt ≤ 5) from ⟨i173, ⟨kp_w (by decide) u178, v179⟩, by first | with_reducible assumption | omega⟩)
    · have c183 : r20.1.toInt ≠ (0 : Int) := o_ne h26
      unfold J_X6_readClause_44
      refine ok_ite (fun h184 => ?_) (fun h184 => ?_)
      · have c185 : (1 : Int) = (-1 : Int) := o_eq h184
        refine ok_bind (k_X7_refuse L hN (a0 := a1) (x1 := (1 : Int32)) k_a1 (show (1 : Int) ≠ 0 by first | with_reducible assumption | omega) i6) (fun r186 hr187 => ?_)
        obtain ⟨i188, ⟨u190, u191, u192⟩, p189⟩ := hr187
        have u193 := kp_t u10 u190
        have v194 : q_V r186 = q_V δ := (u191).trans v11
        have f195 := ti_b (q_I r186 7 5 a1)
        unfold J_X6_readClause_94
        have f196 : (q_I r186 6 0 a0).toInt = (q_I δ 6 0 a0).toInt := ((show (q_I r186 6 0 a0).toInt = (q_I r4 6 0 a0).toInt from congrArg Int32.toInt (u190 6 0 a0 (by decide))).trans (show (q_I r4 6 0 a0).toInt = (q_I δ 6 0 a0).toInt from congrArg Int32.toInt (u7 6 0 a0 (by decide))))
        have f197 : (q_I r186 6 2 a0).toInt = (q_I δ 6 2 a0).toInt := ((show (q_I r186 6 2 a0).toInt = (q_I r4 6 2 a0).toInt from congrArg Int32.toInt (u190 6 2 a0 (by decide))).trans (show (q_I r4 6 2 a0).toInt = (q_I δ 6 2 a0).toInt from congrArg Int32.toInt (u7 6 2 a0 (by decide))))
        exact ok_some (show CI ad h.1 δ0 r186 ∧ (kp [(6, 0), (6, 1), (6, 2), (7, 3), (7, 4), (7, 5), (7, 6)] δ r186 ∧ q_V r186 = q_V δ) ∧ ((q_I r186 7 5 a1).toInt = 0 → 2 ≤ (q_I r186 6 0 a0).toInt ∧ (q_I r186 6 0 a0).toInt ≤ 16 ∧ 1 ≤ (q_I r186 6 2 a0).toInt ∧ (q_I r186 6 2 a0).toInt ≤ 5) from ⟨i188, ⟨kp_w (by decide) u193, v194⟩, by first | with_reducible assumption | omega⟩)
      · have c198 : (1 : Int) ≠ (-1 : Int) := o_ne h184
        obtain ⟨b199, o200, k201, n202, w203⟩ := gO_6_3 L k_a0
        refine ok_at o200 ?_
        have t204 : (1 : Int32).toNatClampNeg = 1 := rfl
        refine ok_gd (fun hc205 => ?_) ?_
        · rcases hc205 with hc205 | hc205
          · have c206 : (1 : Int) < (0 : Int) := o_lt hc205
            omega
          · omega
        have f207 := ti_b (q_R r4 b199 (1 : Int32).toNatClampNeg)
        refine ok_ite (fun h208 => ?_) (fun h208 => ?_)
        · have c209 : (q_R r4 b199 (1 : Int32).toNatClampNeg).toInt = (0 : Int) := o_eq h208
          refine ok_at o200 ?_
          refine ok_gd (fun hc210 => ?_) ?_
          · rcases hc210 with hc210 | hc210
            · have c211 : (1 : Int) < (0 : Int) := o_lt hc210
              omega
            · omega
          refine ok_bdv (fun d212 e213 => ?_)
          have i214 : CI ad h.1 δ0 d212 := by rw [e213]; exact CI.sR L i6 w203
          have u215 := kp_N u10 (show q_I d212 = q_I r4 by rw [e213]; rfl)
          have v216 : q_V d212 = q_V δ := ((show q_V d212 = q_V r4 by rw [e213]; rfl)).trans v11
          have f219 : (q_I d212 7 5 a1).toInt = (q_I δ 7 5 a1).toInt := ((show (q_I d212 7 5 a1).toInt = (q_I r4 7 5 a1).toInt from congrArg Int32.toInt (by rw [e213]; rfl)).trans (show (q_I r4 7 5 a1).toInt = (q_I δ 7 5 a1).toInt from congrArg Int32.toInt (u7 7 5 a1 (by decide))))
          have f220 : (q_I d212 6 0 a0).toInt = (q_I δ 6 0 a0).toInt := ((show (q_I d212 6 0 a0).toInt = (q_I r4 6 0 a0).toInt from congrArg Int32.toInt (by rw [e213]; rfl)).trans (show (q_I r4 6 0 a0).toInt = (q_I δ 6 0 a0).toInt from congrArg Int32.toInt (u7 6 0 a0 (by decide))))
          have f221 : (q_I d212 6 2 a0).toInt = (q_I δ 6 2 a0).toInt := ((show (q_I d212 6 2 a0).toInt = (q_I r4 6 2 a0).toInt from congrArg Int32.toInt (by rw [e213]; rfl)).trans (show (q_I r4 6 2 a0).toInt = (q_I δ 6 2 a0).toInt from congrArg Int32.toInt (u7 6 2 a0 (by decide))))
          refine ok_bind (k_X6_readValue L hN (a0 := a0) (a1 := a1) (x2 := (1 : Int32)) k_a0 k_a1 (show (q_I d212 7 5 a1).toInt = 0 → 2 ≤ (q_I d212 6 0 a0).toInt ∧ (q_I d212 6 0 a0).toInt ≤ 16 ∧ 1 ≤ (q_I d212 6 2 a0).toInt ∧ (q_I d212 6 2 a0).toInt ≤ 5 by first | with_reducible assumption | omega) i214) (fun r217 hr218 => ?_)
          obtain ⟨i222, ⟨u224, u225, u226⟩, p223⟩ := hr218
          have u227 := kp_t u215 u224
          have v228 : q_V r217 = q_V δ := (u225).trans v216
          have f229 := ti_b (q_I r217 7 5 a1)
          have f230 := ti_b (q_I r217 6 0 a0)
          have f231 := ti_b (q_I r217 6 2 a0)
          refine ok_bind (k_X7_needSign L hN (a0 := a1) (x1 := (59 : Int32)) k_a1 (show (59 : Int) ≠ -1 by first | with_reducible assumption | omega) i222) (fun r232 hr233 => ?_)
          obtain ⟨i234, ⟨u236, u237, u238⟩, p235⟩ := hr233
          have u239 := kp_t u227 u236
          have v240 : q_V r232 = q_V δ := (u237).trans v228
          have f241 := ti_b (q_I r232 7 5 a1)
          unfold J_X6_readClause_94
          have f242 : (q_I r232 6 0 a0).toInt = (q_I r217 6 0 a0).toInt := congrArg Int32.toInt (u236 6 0 a0 (by decide))
          have f243 : (q_I r232 6 2 a0).toInt = (q_I r217 6 2 a0).toInt := congrArg Int32.toInt (u236 6 2 a0 (by decide))
          exact ok_some (show CI ad h.1 δ0 r232 ∧ (kp [(6, 0), (6, 1), (6, 2), (7, 3), (7, 4), (7, 5), (7, 6)] δ r232 ∧ q_V r232 = q_V δ) ∧ ((q_I r232 7 5 a1).toInt = 0 → 2 ≤ (q_I r232 6 0 a0).toInt ∧ (q_I r232 6 0 a0).toInt ≤ 16 ∧ 1 ≤ (q_I r232 6 2 a0).toInt ∧ (q_I r232 6 2 a0).toInt ≤ 5) from ⟨i234, ⟨kp_w (by decide) u239, v240⟩, by first | with_reducible assumption | omega⟩)
        · have c244 : (q_R r4 b199 (1 : Int32).toNatClampNeg).toInt ≠ (0 : Int) := o_ne h208
          refine ok_bind (k_X7_refuse L hN (a0 := a1) (x1 := (4 : Int32)) k_a1 (show (4 : Int) ≠ 0 by first | with_reducible assumption | omega) i6) (fun r245 hr246 => ?_)
          obtain ⟨i247, ⟨u249, u250, u251⟩, p248⟩ := hr246
          have u252 := kp_t u10 u249
          have v253 : q_V r245 = q_V δ := (u250).trans v11
          have f254 := ti_b (q_I r245 7 5 a1)
          unfold J_X6_readClause_94
          have f255 : (q_I r245 6 0 a0).toInt = (q_I δ 6 0 a0).toInt := ((show (q_I r245 6 0 a0).toInt = (q_I r4 6 0 a0).toInt from congrArg Int32.toInt (u249 6 0 a0 (by decide))).trans (show (q_I r4 6 0 a0).toInt = (q_I δ 6 0 a0).toInt from congrArg Int32.toInt (u7 6 0 a0 (by decide))))
          have f256 : (q_I r245 6 2 a0).toInt = (q_I δ 6 2 a0).toInt := ((show (q_I r245 6 2 a0).toInt = (q_I r4 6 2 a0).toInt from congrArg Int32.toInt (u249 6 2 a0 (by decide))).trans (show (q_I r4 6 2 a0).toInt = (q_I δ 6 2 a0).toInt from congrArg Int32.toInt (u7 6 2 a0 (by decide))))
          exact ok_some (show CI ad h.1 δ0 r245 ∧ (kp [(6, 0), (6, 1), (6, 2), (7, 3), (7, 4), (7, 5), (7, 6)] δ r245 ∧ q_V r245 = q_V δ) ∧ ((q_I r245 7 5 a1).toInt = 0 → 2 ≤ (q_I r245 6 0 a0).toInt ∧ (q_I r245 6 0 a0).toInt ≤ 16 ∧ 1 ≤ (q_I r245 6 2 a0).toInt ∧ (q_I r245 6 2 a0).toInt ≤ 5) from ⟨i247, ⟨kp_w (by decide) u252, v253⟩, by first | with_reducible assumption | omega⟩)
  · have c257 : r12.1.toInt ≠ (0 : Int) := o_ne h18
    unfold J_X6_readClause_44
    refine ok_ite (fun h258 => ?_) (fun h258 => ?_)
    · have c259 : (0 : Int) = (-1 : Int) := o_eq h258
      refine ok_bind (k_X7_refuse L hN (a0 := a1) (x1 := (1 : Int32)) k_a1 (show (1 : Int) ≠ 0 by first | with_reducible assumption | omega) i6) (fun r260 hr261 => ?_)
      obtain ⟨i262, ⟨u264, u265, u266⟩, p263⟩ := hr261
      have u267 := kp_t u10 u264
      have v268 : q_V r260 = q_V δ := (u265).trans v11
      have f269 := ti_b (q_I r260 7 5 a1)
      unfold J_X6_readClause_94
      have f270 : (q_I r260 6 0 a0).toInt = (q_I δ 6 0 a0).toInt := ((show (q_I r260 6 0 a0).toInt = (q_I r4 6 0 a0).toInt from congrArg Int32.toInt (u264 6 0 a0 (by decide))).trans (show (q_I r4 6 0 a0).toInt = (q_I δ 6 0 a0).toInt from congrArg Int32.toInt (u7 6 0 a0 (by decide))))
      have f271 : (q_I r260 6 2 a0).toInt = (q_I δ 6 2 a0).toInt := ((show (q_I r260 6 2 a0).toInt = (q_I r4 6 2 a0).toInt from congrArg Int32.toInt (u264 6 2 a0 (by decide))).trans (show (q_I r4 6 2 a0).toInt = (q_I δ 6 2 a0).toInt from congrArg Int32.toInt (u7 6 2 a0 (by decide))))
      exact ok_some (show CI ad h.1 δ0 r260 ∧ (kp [(6, 0), (6, 1), (6, 2), (7, 3), (7, 4), (7, 5), (7, 6)] δ r260 ∧ q_V r260 = q_V δ) ∧ ((q_I r260 7 5 a1).toInt = 0 → 2 ≤ (q_I r260 6 0 a0).toInt ∧ (q_I r260 6 0 a0).toInt ≤ 16 ∧ 1 ≤ (q_I r260 6 2 a0).toInt ∧ (q_I r260 6 2 a0).toInt ≤ 5) from ⟨i262, ⟨kp_w (by decide) u267, v268⟩, by first | with_reducible assumption | omega⟩)
    · have c272 : (0 : Int) ≠ (-1 : Int) := o_ne h258
      obtain ⟨b273, o274, k275, n276, w277⟩ := gO_6_3 L k_a0
      refine ok_at o274 ?_
      have t278 : (0 : Int32).toNatClampNeg = 0 := rfl
      refine ok_gd (fun hc279 => ?_) ?_
      · rcases hc279 with hc279 | hc279
        · have c280 : (0 : Int) < (0 : Int) := o_lt hc279
          omega
        · omega
      have f281 := ti_b (q_R r4 b273 (0 : Int32).toNatClampNeg)
      refine ok_ite (fun h282 => ?_) (fun h282 => ?_)
      · have c283 : (q_R r4 b273 (0 : Int32).toNatClampNeg).toInt = (0 : Int) := o_eq h282
        refine ok_at o274 ?_
        refine ok_gd (fun hc284 => ?_) ?_
        · rcases hc284 with hc284 | hc284
          · have c285 : (0 : Int) < (0 : Int) := o_lt hc284
            omega
          · omega
        refine ok_bdv (fun d286 e287 => ?_)
        have i288 : CI ad h.1 δ0 d286 := by rw [e287]; exact CI.sR L i6 w277
        have u289 := kp_N u10 (show q_I d286 = q_I r4 by rw [e287]; rfl)
        have v290 : q_V d286 = q_V δ := ((show q_V d286 = q_V r4 by rw [e287]; rfl)).trans v11
        have f293 : (q_I d286 7 5 a1).toInt = (q_I δ 7 5 a1).toInt := ((show (q_I d286 7 5 a1).toInt = (q_I r4 7 5 a1).toInt from congrArg Int32.toInt (by rw [e287]; rfl)).trans (show (q_I r4 7 5 a1).toInt = (q_I δ 7 5 a1).toInt from congrArg Int32.toInt (u7 7 5 a1 (by decide))))
        have f294 : (q_I d286 6 0 a0).toInt = (q_I δ 6 0 a0).toInt := ((show (q_I d286 6 0 a0).toInt = (q_I r4 6 0 a0).toInt from congrArg Int32.toInt (by rw [e287]; rfl)).trans (show (q_I r4 6 0 a0).toInt = (q_I δ 6 0 a0).toInt from congrArg Int32.toInt (u7 6 0 a0 (by decide))))
        have f295 : (q_I d286 6 2 a0).toInt = (q_I δ 6 2 a0).toInt := ((show (q_I d286 6 2 a0).toInt = (q_I r4 6 2 a0).toInt from congrArg Int32.toInt (by rw [e287]; rfl)).trans (show (q_I r4 6 2 a0).toInt = (q_I δ 6 2 a0).toInt from congrArg Int32.toInt (u7 6 2 a0 (by decide))))
        refine ok_bind (k_X6_readValue L hN (a0 := a0) (a1 := a1) (x2 := (0 : Int32)) k_a0 k_a1 (show (q_I d286 7 5 a1).toInt = 0 → 2 ≤ (q_I d286 6 0 a0).toInt ∧ (q_I d286 6 0 a0).toInt ≤ 16 ∧ 1 ≤ (q_I d286 6 2 a0).toInt ∧ (q_I d286 6 2 a0).toInt ≤ 5 by first | with_reducible assumption | omega) i288) (fun r291 hr292 => ?_)
        obtain ⟨i296, ⟨u298, u299, u300⟩, p297⟩ := hr292
        have u301 := kp_t u289 u298
        have v302 : q_V r291 = q_V δ := (u299).trans v290
        have f303 := ti_b (q_I r291 7 5 a1)
        have f304 := ti_b (q_I r291 6 0 a0)
        have f305 := ti_b (q_I r291 6 2 a0)
        refine ok_bind (k_X7_needSign L hN (a0 := a1) (x1 := (59 : Int32)) k_a1 (show (59 : Int) ≠ -1 by first | with_reducible assumption | omega) i296) (fun r306 hr307 => ?_)
        obtain ⟨i308, ⟨u310, u311, u312⟩, p309⟩ := hr307
        have u313 := kp_t u301 u310
        have v314 : q_V r306 = q_V δ := (u311).trans v302
        have f315 := ti_b (q_I r306 7 5 a1)
        unfold J_X6_readClause_94
        have f316 : (q_I r306 6 0 a0).toInt = (q_I r291 6 0 a0).toInt := congrArg Int32.toInt (u310 6 0 a0 (by decide))
        have f317 : (q_I r306 6 2 a0).toInt = (q_I r291 6 2 a0).toInt := congrArg Int32.toInt (u310 6 2 a0 (by decide))
        exact ok_some (show CI ad h.1 δ0 r306 ∧ (kp [(6, 0), (6, 1), (6, 2), (7, 3), (7, 4), (7, 5), (7, 6)] δ r306 ∧ q_V r306 = q_V δ) ∧ ((q_I r306 7 5 a1).toInt = 0 → 2 ≤ (q_I r306 6 0 a0).toInt ∧ (q_I r306 6 0 a0).toInt ≤ 16 ∧ 1 ≤ (q_I r306 6 2 a0).toInt ∧ (q_I r306 6 2 a0).toInt ≤ 5) from ⟨i308, ⟨kp_w (by decide) u313, v314⟩, by first | with_reducible assumption | omega⟩)
      · have c318 : (q_R r4 b273 (0 : Int32).toNatClampNeg).toInt ≠ (0 : Int) := o_ne h282
        refine ok_bind (k_X7_refuse L hN (a0 := a1) (x1 := (4 : Int32)) k_a1 (show (4 : Int) ≠ 0 by first | with_reducible assumption | omega) i6) (fun r319 hr320 => ?_)
        obtain ⟨i321, ⟨u323, u324, u325⟩, p322⟩ := hr320
        have u326 := kp_t u10 u323
        have v327 : q_V r319 = q_V δ := (u324).trans v11
        have f328 := ti_b (q_I r319 7 5 a1)
        unfold J_X6_readClause_94
        have f329 : (q_I r319 6 0 a0).toInt = (q_I δ 6 0 a0).toInt := ((show (q_I r319 6 0 a0).toInt = (q_I r4 6 0 a0).toInt from congrArg Int32.toInt (u323 6 0 a0 (by decide))).trans (show (q_I r4 6 0 a0).toInt = (q_I δ 6 0 a0).toInt from congrArg Int32.toInt (u7 6 0 a0 (by decide))))
        have f330 : (q_I r319 6 2 a0).toInt = (q_I δ 6 2 a0).toInt := ((show (q_I r319 6 2 a0).toInt = (q_I r4 6 2 a0).toInt from congrArg Int32.toInt (u323 6 2 a0 (by decide))).trans (show (q_I r4 6 2 a0).toInt = (q_I δ 6 2 a0).toInt from congrArg Int32.toInt (u7 6 2 a0 (by decide))))
        exact ok_some (show CI ad h.1 δ0 r319 ∧ (kp [(6, 0), (6, 1), (6, 2), (7, 3), (7, 4), (7, 5), (7, 6)] δ r319 ∧ q_V r319 = q_V δ) ∧ ((q_I r319 7 5 a1).toInt = 0 → 2 ≤ (q_I r319 6 0 a0).toInt ∧ (q_I r319 6 0 a0).toInt ≤ 16 ∧ 1 ≤ (q_I r319 6 2 a0).toInt ∧ (q_I r319 6 2 a0).toInt ≤ 5) from ⟨i321, ⟨kp_w (by decide) u326, v327⟩, by first | with_reducible assumption | omega⟩)
set_option maxHeartbeats 4000000 in
theorem kl_X6_read_38 {ad : List Nat} {h : hp} (L : Lay TLx ad h) {δ0 : dp} {N : Nat} (hN : 10000000 ≤ N) {a0 : Nat} {a1 : Nat} (k_a0 : q_K h.1 a0 = 6) (k_a1 : q_K h.1 a1 = 7) : ∀ (n : Nat) (x2v : Int32) (δ : dp), CI ad h.1 δ0 δ → ((q_I δ 7 5 a1).toInt = 0 → 2 ≤ (q_I δ 6 0 a0).toInt ∧ (q_I δ 6 0 a0).toInt ≤ 16 ∧ 1 ≤ (q_I δ 6 2 a0).toInt ∧ (q_I δ 6 2 a0).toInt ≤ 5) → 0 ≤ (x2v).toInt → (x2v).toInt ≤ 500 → 500 - (x2v).toInt < (n : Int) → ok (L_X6_read_38 N h.1 a0 a1 n x2v δ) (fun r => CI ad h.1 δ0 r ∧ (kp [(6, 0), (6, 1), (6, 2), (7, 3), (7, 4), (7, 5), (7, 6)] δ r ∧ q_V r = q_V δ) ∧ ((q_I r 7 5 a1).toInt = 0 → 2 ≤ (q_I r 6 0 a0).toInt ∧ (q_I r 6 0 a0).toInt ≤ 16 ∧ 1 ≤ (q_I r 6 2 a0).toInt ∧ (q_I r 6 2 a0).toInt ≤ 5)) := by
  intro n
  induction n with
  | zero =>
    intro x2v δ I j0 j1 j2 hm
    have f1 := ti_b (q_I δ 7 5 a1)
    have f2 := ti_b (q_I δ 6 0 a0)
    have f3 := ti_b (q_I δ 6 2 a0)
    have f4 := ti_b x2v
    exfalso; omega
  | succ n ih =>
    intro x2v δ I j0 j1 j2 hm
    unfold L_X6_read_38
    have f1 := ti_b (q_I δ 7 5 a1)
    have f2 := ti_b (q_I δ 6 0 a0)
    have f3 := ti_b (q_I δ 6 2 a0)
    have f4 := ti_b x2v
    refine ok_ite (fun h5 => ?_) (fun h5 => ?_)
    · have c6 : (500 : Int) ≤ x2v.toInt := o_le h5
      unfold J_X6_read_71
      exact ok_some (show CI ad h.1 δ0 δ ∧ (kp [(6, 0), (6, 1), (6, 2), (7, 3), (7, 4), (7, 5), (7, 6)] δ δ ∧ q_V δ = q_V δ) ∧ ((q_I δ 7 5 a1).toInt = 0 → 2 ≤ (q_I δ 6 0 a0).toInt ∧ (q_I δ 6 0 a0).toInt ≤ 16 ∧ 1 ≤ (q_I δ 6 2 a0).toInt ∧ (q_I δ 6 2 a0).toInt ≤ 5) from ⟨I, ⟨kp_w (by decide) kp_r, rfl⟩, by first | with_reducible assumption | omega⟩)
    · have c7 : x2v.toInt < (500 : Int) := o_nle h5
      refine ok_bind (k_X7_isSound L hN (a0 := a1) k_a1 I) (fun r8 hr9 => ?_)
      obtain ⟨i10, p11, p12, p13⟩ := hr9
      try rw [i10]
      have f14 := bo_t p11
      have f15 := ti_b r8.1
      refine ok_ite (fun h16 => ?_) (fun h16 => ?_)
      · have c17 : r8.1.toInt = (0 : Int) := o_eq h16
        unfold J_X6_read_71
        exact ok_some (show CI ad h.1 δ0 δ ∧ (kp [(6, 0), (6, 1), (6, 2), (7, 3), (7, 4), (7, 5), (7, 6)] δ δ ∧ q_V δ = q_V δ) ∧ ((q_I δ 7 5 a1).toInt = 0 → 2 ≤ (q_I δ 6 0 a0).toInt ∧ (q_I δ 6 0 a0).toInt ≤ 16 ∧ 1 ≤ (q_I δ 6 2 a0).toInt ∧ (q_I δ 6 2 a0).toInt ≤ 5) from ⟨I, ⟨kp_w (by decide) kp_r, rfl⟩, by first | with_reducible assumption | omega⟩)
      · have c18 : r8.1.toInt ≠ (0 : Int) := o_ne h16
        refine ok_bind (k_X7_ahead L hN (a0 := a1) k_a1 I) (fun r19 hr20 => ?_)
        obtain ⟨i21, ⟨u23, u24, u25⟩, p22⟩ := hr20
        have u26 := kp_t kp_r u23
        have v27 : q_V r19.2 = q_V δ := (u24).trans rfl
        have f28 := ti_b r19.1
        have f29 := cb_7_3 i21 k_a1
        have f30 : (q_I r19.2 7 2 a1).toInt = (q_I δ 7 2 a1).toInt := congrArg Int32.toInt (u23 7 2 a1 (by decide))
        have f31 := cb_7_2 I k_a1
        refine ok_ite (fun h32 => ?_) (fun h32 => ?_)
        · have c33 : r19.1.toInt = (-1 : Int) := o_eq h32
          unfold J_X6_read_71
          have f34 : (q_I r19.2 7 5 a1).toInt = (q_I δ 7 5 a1).toInt := congrArg Int32.toInt (u23 7 5 a1 (by decide))
          have f35 : (q_I r19.2 6 0 a0).toInt = (q_I δ 6 0 a0).toInt := congrArg Int32.toInt (u23 6 0 a0 (by decide))
          have f36 : (q_I r19.2 6 2 a0).toInt = (q_I δ 6 2 a0).toInt := congrArg Int32.toInt (u23 6 2 a0 (by decide))
          exact ok_some (show CI ad h.1 δ0 r19.2 ∧ (kp [(6, 0), (6, 1), (6, 2), (7, 3), (7, 4), (7, 5), (7, 6)] δ r19.2 ∧ q_V r19.2 = q_V δ) ∧ ((q_I r19.2 7 5 a1).toInt = 0 → 2 ≤ (q_I r19.2 6 0 a0).toInt ∧ (q_I r19.2 6 0 a0).toInt ≤ 16 ∧ 1 ≤ (q_I r19.2 6 2 a0).toInt ∧ (q_I r19.2 6 2 a0).toInt ≤ 5) from ⟨i21, ⟨kp_w (by decide) u26, v27⟩, by first | with_reducible assumption | omega⟩)
        · have c37 : r19.1.toInt ≠ (-1 : Int) := o_ne h32
          have f40 : (q_I r19.2 7 5 a1).toInt = (q_I δ 7 5 a1).toInt := congrArg Int32.toInt (u23 7 5 a1 (by decide))
          have f41 : (q_I r19.2 6 0 a0).toInt = (q_I δ 6 0 a0).toInt := congrArg Int32.toInt (u23 6 0 a0 (by decide))
          have f42 : (q_I r19.2 6 2 a0).toInt = (q_I δ 6 2 a0).toInt := congrArg Int32.toInt (u23 6 2 a0 (by decide))
          refine ok_bind (k_X6_readClause L hN (a0 := a0) (a1 := a1) k_a0 k_a1 (show (q_I r19.2 7 5 a1).toInt = 0 → 2 ≤ (q_I r19.2 6 0 a0).toInt ∧ (q_I r19.2 6 0 a0).toInt ≤ 16 ∧ 1 ≤ (q_I r19.2 6 2 a0).toInt ∧ (q_I r19.2 6 2 a0).toInt ≤ 5 by first | with_reducible assumption | omega) i21) (fun r38 hr39 => ?_)
          obtain ⟨i43, ⟨u45, u46⟩, p44⟩ := hr39
          have u47 := kp_t u26 u45
          have v48 : q_V r38 = q_V δ := (u46).trans v27
          have f49 := ti_b (q_I r38 7 5 a1)
          have f50 := ti_b (q_I r38 6 0 a0)
          have f51 := ti_b (q_I r38 6 2 a0)
          refine ok_biv (fun vx52 e53 => ?_)
          first | (have q54 := te_addc (c := 1) (n := 1) rfl x2v (by omega) (by omega); rw [← e53] at q54; obtain ⟨f55, f56, f57⟩ := q54) | (obtain ⟨q54, f55, f56, f57⟩ : ∃ q : Int, vx52.toInt = x2v.toInt + (1 : Int) + 4294967296 * q ∧ -2147483648 ≤ vx52.toInt ∧ vx52.toInt ≤ 2147483647 := by rw [e53]; exact ti_addc (c := 1) (n := 1) rfl x2v)
          refine ok_mono (ih vx52 r38 i43 (show (q_I r38 7 5 a1).toInt = 0 → 2 ≤ (q_I r38 6 0 a0).toInt ∧ (q_I r38 6 0 a0).toInt ≤ 16 ∧ 1 ≤ (q_I r38 6 2 a0).toInt ∧ (q_I r38 6 2 a0).toInt ≤ 5 by first | with_reducible assumption | omega) (show 0 ≤ (vx52).toInt by first | with_reducible assumption | omega) (show (vx52).toInt ≤ 500 by first | with_reducible assumption | omega) (show 500 - (vx52).toInt < _ by omega)) (fun r58 hr59 => ?_)
          obtain ⟨i60, ⟨u62, u63⟩, p61⟩ := hr59
          have u64 := kp_t u47 u62
          have v65 : q_V r58 = q_V δ := (u63).trans v48
          have f66 := ti_b (q_I r58 7 5 a1)
          have f67 := ti_b (q_I r58 6 0 a0)
          have f68 := ti_b (q_I r58 6 2 a0)
          exact ⟨by first | with_reducible assumption | assumption, ⟨kp_w (by decide) u64, v65⟩, by first | with_reducible assumption | omega⟩
set_option maxHeartbeats 4000000 in
theorem kl_X6_read_18 {ad : List Nat} {h : hp} (L : Lay TLx ad h) {δ0 : dp} {N : Nat} (hN : 10000000 ≤ N) {a0 : Nat} {a1 : Nat} (k_a0 : q_K h.1 a0 = 6) (k_a1 : q_K h.1 a1 = 7) : ∀ (n : Nat) (x2v : Int32) (δ : dp), CI ad h.1 δ0 δ → ((q_I δ 7 5 a1).toInt = 0 → 2 ≤ (q_I δ 6 0 a0).toInt ∧ (q_I δ 6 0 a0).toInt ≤ 16 ∧ 1 ≤ (q_I δ 6 2 a0).toInt ∧ (q_I δ 6 2 a0).toInt ≤ 5) → 0 ≤ (x2v).toInt → (x2v).toInt ≤ 3 → 3 - (x2v).toInt < (n : Int) → ok (L_X6_read_18 N h.1 a0 a1 n x2v δ) (fun r => CI ad h.1 δ0 r ∧ (kp [(6, 0), (6, 1), (6, 2), (7, 3), (7, 4), (7, 5), (7, 6)] δ r ∧ q_V r = q_V δ) ∧ ((q_I r 7 5 a1).toInt = 0 → 2 ≤ (q_I r 6 0 a0).toInt ∧ (q_I r 6 0 a0).toInt ≤ 16 ∧ 1 ≤ (q_I r 6 2 a0).toInt ∧ (q_I r 6 2 a0).toInt ≤ 5)) := by
  intro n
  induction n with
  | zero =>
    intro x2v δ I j0 j1 j2 hm
    have f1 := ti_b (q_I δ 7 5 a1)
    have f2 := ti_b (q_I δ 6 0 a0)
    have f3 := ti_b (q_I δ 6 2 a0)
    have f4 := ti_b x2v
    exfalso; omega
  | succ n ih =>
    intro x2v δ I j0 j1 j2 hm
    unfold L_X6_read_18
    have f1 := ti_b (q_I δ 7 5 a1)
    have f2 := ti_b (q_I δ 6 0 a0)
    have f3 := ti_b (q_I δ 6 2 a0)
    have f4 := ti_b x2v
    refine ok_ite (fun h5 => ?_) (fun h5 => ?_)
    · have c6 : (3 : Int) ≤ x2v.toInt := o_le h5
      refine ok_mono (kl_X6_read_38 L hN   k_a0 k_a1 _ (0 : Int32) δ I (show (q_I δ 7 5 a1).toInt = 0 → 2 ≤ (q_I δ 6 0 a0).toInt ∧ (q_I δ 6 0 a0).toInt ≤ 16 ∧ 1 ≤ (q_I δ 6 2 a0).toInt ∧ (q_I δ 6 2 a0).toInt ≤ 5 by first | with_reducible assumption | omega) (show 0 ≤ (0 : Int) by first | with_reducible assumption | omega) (show (0 : Int) ≤ 500 by first | with_reducible assumption | omega) (show 500 - (0 : Int) < _ by omega)) (fun r7 hr8 => ?_)
      obtain ⟨i9, ⟨u11, u12⟩, p10⟩ := hr8
      have u13 := kp_t kp_r u11
      have v14 : q_V r7 = q_V δ := (u12).trans rfl
      have f15 := ti_b (q_I r7 7 5 a1)
      have f16 := ti_b (q_I r7 6 0 a0)
      have f17 := ti_b (q_I r7 6 2 a0)
      exact ⟨by first | with_reducible assumption | assumption, ⟨kp_w (by decide) u13, v14⟩, by first | with_reducible assumption | omega⟩
    · have c18 : x2v.toInt < (3 : Int) := o_nle h5
      obtain ⟨b19, o20, k21, n22, w23⟩ := gO_6_3 L k_a0
      refine ok_at o20 ?_
      have t24 := ti_tn x2v
      refine ok_gd (fun hc25 => ?_) ?_
      · rcases hc25 with hc25 | hc25
        · have c26 : x2v.toInt < (0 : Int) := o_lt hc25
          omega
        · omega
      refine ok_bdv (fun d27 e28 => ?_)
      have i29 : CI ad h.1 δ0 d27 := by rw [e28]; exact CI.sR L I w23
      have u30 := kp_N kp_r (show q_I d27 = q_I δ by rw [e28]; rfl)
      have v31 : q_V d27 = q_V δ := ((show q_V d27 = q_V δ by rw [e28]; rfl)).trans rfl
      refine ok_biv (fun vx32 e33 => ?_)
      first | (have q34 := te_addc (c := 1) (n := 1) rfl x2v (by omega) (by omega); rw [← e33] at q34; obtain ⟨f35, f36, f37⟩ := q34) | (obtain ⟨q34, f35, f36, f37⟩ : ∃ q : Int, vx32.toInt = x2v.toInt + (1 : Int) + 4294967296 * q ∧ -2147483648 ≤ vx32.toInt ∧ vx32.toInt ≤ 2147483647 := by rw [e33]; exact ti_addc (c := 1) (n := 1) rfl x2v)
      have f38 : (q_I d27 7 5 a1).toInt = (q_I δ 7 5 a1).toInt := congrArg Int32.toInt (by rw [e28]; rfl)
      have f39 : (q_I d27 6 0 a0).toInt = (q_I δ 6 0 a0).toInt := congrArg Int32.toInt (by rw [e28]; rfl)
      have f40 : (q_I d27 6 2 a0).toInt = (q_I δ 6 2 a0).toInt := congrArg Int32.toInt (by rw [e28]; rfl)
      refine ok_mono (ih vx32 d27 i29 (show (q_I d27 7 5 a1).toInt = 0 → 2 ≤ (q_I d27 6 0 a0).toInt ∧ (q_I d27 6 0 a0).toInt ≤ 16 ∧ 1 ≤ (q_I d27 6 2 a0).toInt ∧ (q_I d27 6 2 a0).toInt ≤ 5 by first | with_reducible assumption | omega) (show 0 ≤ (vx32).toInt by first | with_reducible assumption | omega) (show (vx32).toInt ≤ 3 by first | with_reducible assumption | omega) (show 3 - (vx32).toInt < _ by omega)) (fun r41 hr42 => ?_)
      obtain ⟨i43, ⟨u45, u46⟩, p44⟩ := hr42
      have u47 := kp_t u30 u45
      have v48 : q_V r41 = q_V δ := (u46).trans v31
      have f49 := ti_b (q_I r41 7 5 a1)
      have f50 := ti_b (q_I r41 6 0 a0)
      have f51 := ti_b (q_I r41 6 2 a0)
      exact ⟨by first | with_reducible assumption | assumption, ⟨kp_w (by decide) u47, v48⟩, by first | with_reducible assumption | omega⟩
set_option maxHeartbeats 4000000 in
theorem k_X6_read {ad : List Nat} {h : hp} (L : Lay TLx ad h) {δ0 : dp} {N : Nat} (hN : 10000000 ≤ N) {a0 : Nat} {a1 : Nat} (k_a0 : q_K h.1 a0 = 6) (k_a1 : q_K h.1 a1 = 7) {δ : dp} (I : CI ad h.1 δ0 δ) : ok (D_X6_read N h.1 a0 a1 δ) (fun r => CI ad h.1 δ0 r ∧ (kp [(6, 0), (6, 1), (6, 2), (7, 3), (7, 4), (7, 5), (7, 6)] δ r ∧ q_V r = q_V δ) ∧ ((q_I r 7 5 a1).toInt = 0 → 2 ≤ (q_I r 6 0 a0).toInt ∧ (q_I r 6 0 a0).toInt ≤ 16 ∧ 1 ≤ (q_I r 6 2 a0).toInt ∧ (q_I r 6 2 a0).toInt ≤ 5)) := by
  unfold D_X6_read
  refine ok_bdv (fun d1 e2 => ?_)
  have i3 : CI ad h.1 δ0 d1 := by rw [e2]; exact cs_6_0 L I
  have u4 := kp_I kp_r e2
  have v5 : q_V d1 = q_V δ := ((show q_V d1 = q_V δ by rw [e2]; rfl)).trans rfl
  refine ok_bdv (fun d6 e7 => ?_)
  have i8 : CI ad h.1 δ0 d6 := by rw [e7]; exact cs_6_1 L i3 k_a0 (show 0 ≤ (1 : Int) by omega) (show (1 : Int) ≤ 1 by omega)
  have u9 := kp_I u4 e7
  have v10 : q_V d6 = q_V δ := ((show q_V d6 = q_V d1 by rw [e7]; rfl)).trans v5
  refine ok_bdv (fun d11 e12 => ?_)
  have i13 : CI ad h.1 δ0 d11 := by rw [e12]; exact cs_6_2 L i8
  have u14 := kp_I u9 e12
  have v15 : q_V d11 = q_V δ := ((show q_V d11 = q_V d6 by rw [e12]; rfl)).trans v10
  have f16 : (q_I d11 7 5 a1).toInt = (q_I δ 7 5 a1).toInt := ((show (q_I d11 7 5 a1).toInt = (q_I d6 7 5 a1).toInt from congrArg Int32.toInt (by rw [e12]; exact rI_o (by decide))).trans ((show (q_I d6 7 5 a1).toInt = (q_I d1 7 5 a1).toInt from congrArg Int32.toInt (by rw [e7]; exact rI_o (by decide))).trans (show (q_I d1 7 5 a1).toInt = (q_I δ 7 5 a1).toInt from congrArg Int32.toInt (by rw [e2]; exact rI_o (by decide)))))
  have f17 := ti_b (q_I δ 7 5 a1)
  have f18 : (q_I d11 6 0 a0).toInt = (q_I d1 6 0 a0).toInt := ((show (q_I d11 6 0 a0).toInt = (q_I d6 6 0 a0).toInt from congrArg Int32.toInt (by rw [e12]; exact rI_o (by decide))).trans (show (q_I d6 6 0 a0).toInt = (q_I d1 6 0 a0).toInt from congrArg Int32.toInt (by rw [e7]; exact rI_o (by decide))))
  have f19 := ti_b (q_I d1 6 0 a0)
  have f20 : (q_I d1 6 0 a0).toInt = (8 : Int) := congrArg Int32.toInt (show q_I d1 6 0 a0 = (8 : Int32) by rw [e2]; exact rI_s)
  have f21 := ti_b (q_I d11 6 2 a0)
  have f22 : (q_I d11 6 2 a0).toInt = (1 : Int) := congrArg Int32.toInt (show q_I d11 6 2 a0 = (1 : Int32) by rw [e12]; exact rI_s)
  refine ok_mono (kl_X6_read_18 L hN   k_a0 k_a1 _ (0 : Int32) d11 i13 (show (q_I d11 7 5 a1).toInt = 0 → 2 ≤ (q_I d11 6 0 a0).toInt ∧ (q_I d11 6 0 a0).toInt ≤ 16 ∧ 1 ≤ (q_I d11 6 2 a0).toInt ∧ (q_I d11 6 2 a0).toInt ≤ 5 by first | with_reducible assumption | omega) (show 0 ≤ (0 : Int) by first | with_reducible assumption | omega) (show (0 : Int) ≤ 3 by first | with_reducible assumption | omega) (show 3 - (0 : Int) < _ by omega)) (fun r23 hr24 => ?_)
  obtain ⟨i25, ⟨u27, u28⟩, p26⟩ := hr24
  have u29 := kp_t u14 u27
  have v30 : q_V r23 = q_V δ := (u28).trans v15
  have f31 := ti_b (q_I r23 7 5 a1)
  have f32 := ti_b (q_I r23 6 0 a0)
  have f33 := ti_b (q_I r23 6 2 a0)
  exact ⟨by first | with_reducible assumption | assumption, ⟨kp_w (by decide) u29, v30⟩, by first | with_reducible assumption | omega⟩
set_option maxHeartbeats 4000000 in
theorem k_X5_take {ad : List Nat} {h : hp} (L : Lay TLx ad h) {δ0 : dp} {N : Nat} (hN : 10000000 ≤ N) {a0 : Nat} {a1 : Nat} (k_a0 : q_K h.1 a0 = 5) (k_a1 : q_K h.1 a1 = 6) {δ : dp} (z0 : 2 ≤ (q_I δ 6 0 a1).toInt) (z1 : (q_I δ 6 0 a1).toInt ≤ 16) (z2 : 1 ≤ (q_I δ 6 2 a1).toInt) (z3 : (q_I δ 6 2 a1).toInt ≤ 5) (I : CI ad h.1 δ0 δ) : ok (D_X5_take N h.1 a0 a1 δ) (fun r => CI ad h.1 δ0 r ∧ (kp [(5, 0), (5, 1), (5, 2)] δ r ∧ q_V r = q_V δ ∧ q_R r = q_R δ)) := by
  unfold D_X5_take
  have f1 := ti_b (q_I δ 6 0 a1)
  have f2 := ti_b (q_I δ 6 2 a1)
  refine ok_bdv (fun d3 e4 => ?_)
  have i5 : CI ad h.1 δ0 d3 := by rw [e4]; exact cs_5_0 L I k_a0 (show 2 ≤ (q_I δ 6 0 a1).toInt by omega) (show (q_I δ 6 0 a1).toInt ≤ 16 by omega)
  have u6 := kp_I kp_r e4
  have v7 : q_V d3 = q_V δ := ((show q_V d3 = q_V δ by rw [e4]; rfl)).trans rfl
  have v8 : q_R d3 = q_R δ := ((show q_R d3 = q_R δ by rw [e4]; rfl)).trans rfl
  have f9 : (q_I d3 6 1 a1).toInt = (q_I δ 6 1 a1).toInt := congrArg Int32.toInt (by rw [e4]; exact rI_o (by decide))
  have f10 := cb_6_1 I k_a1
  refine ok_gp (bo_i (by omega) (by omega)) ?_
  refine ok_bdv (fun d11 e12 => ?_)
  have i13 : CI ad h.1 δ0 d11 := by rw [e12]; exact cs_5_1 L i5 k_a0 (show 0 ≤ (q_I d3 6 1 a1).toInt by omega) (show (q_I d3 6 1 a1).toInt ≤ 1 by omega)
  have u14 := kp_I u6 e12
  have v15 : q_V d11 = q_V δ := ((show q_V d11 = q_V d3 by rw [e12]; rfl)).trans v7
  have v16 : q_R d11 = q_R δ := ((show q_R d11 = q_R d3 by rw [e12]; rfl)).trans v8
  have f20 : (q_I d11 6 2 a1).toInt = (q_I δ 6 2 a1).toInt := ((show (q_I d11 6 2 a1).toInt = (q_I d3 6 2 a1).toInt from congrArg Int32.toInt (by rw [e12]; exact rI_o (by decide))).trans (show (q_I d3 6 2 a1).toInt = (q_I δ 6 2 a1).toInt from congrArg Int32.toInt (by rw [e4]; exact rI_o (by decide))))
  refine ok_bdv (fun d17 e18 => ?_)
  have i19 : CI ad h.1 δ0 d17 := by rw [e18]; exact cs_5_2 L i13 k_a0 (show 1 ≤ (q_I d11 6 2 a1).toInt by omega) (show (q_I d11 6 2 a1).toInt ≤ 5 by omega)
  have u21 := kp_I u14 e18
  have v22 : q_V d17 = q_V δ := ((show q_V d17 = q_V d11 by rw [e18]; rfl)).trans v15
  have v23 : q_R d17 = q_R δ := ((show q_R d17 = q_R d11 by rw [e18]; rfl)).trans v16
  exact ok_some (show CI ad h.1 δ0 d17 ∧ (kp [(5, 0), (5, 1), (5, 2)] δ d17 ∧ q_V d17 = q_V δ ∧ q_R d17 = q_R δ) from ⟨i19, ⟨kp_w (by decide) u21, v22, v23⟩⟩)
end
section
/-! 60.kX2 (by gen_safe.py) -/
set_option maxHeartbeats 4000000 in
theorem k_X2_clear {ad : List Nat} {h : hp} (L : Lay TLx ad h) {δ0 : dp} {N : Nat} (hN : 10000000 ≤ N) {a0 : Nat} (k_a0 : q_K h.1 a0 = 2) {δ : dp} (I : CI ad h.1 δ0 δ) : ok (D_X2_clear N h.1 a0 δ) (fun r => CI ad h.1 δ0 r ∧ (kp [(2, 4), (3, 1)] δ r ∧ q_V r = q_V δ ∧ q_R r = q_R δ)) := by
  unfold D_X2_clear
  obtain ⟨b1, o2, k3⟩ := gO_2_0 L k_a0
  refine ok_at o2 ?_
  refine ok_bind (k_X3_clear L hN (a0 := b1) k3 I) (fun r4 hr5 => ?_)
  obtain ⟨i6, ⟨u8, u9, u10⟩, p7⟩ := hr5
  have u11 := kp_t kp_r u8
  have v12 : q_V r4 = q_V δ := (u9).trans rfl
  have v13 : q_R r4 = q_R δ := (u10).trans rfl
  obtain ⟨b14, o15, k16, ⟨n17, n18⟩, w19⟩ := gO_3_0 L k3
  have f20 := cb_3_1 i6 k3 o15
  refine ok_bdv (fun d21 e22 => ?_)
  have i23 : CI ad h.1 δ0 d21 := by rw [e22]; exact cs_2_4 L i6 k_a0 (show 0 ≤ (0 : Int) by omega) (show (0 : Int) ≤ 1000 by omega)
  have u24 := kp_I u11 e22
  have v25 : q_V d21 = q_V δ := ((show q_V d21 = q_V r4 by rw [e22]; rfl)).trans v12
  have v26 : q_R d21 = q_R δ := ((show q_R d21 = q_R r4 by rw [e22]; rfl)).trans v13
  exact ok_some (show CI ad h.1 δ0 d21 ∧ (kp [(2, 4), (3, 1)] δ d21 ∧ q_V d21 = q_V δ ∧ q_R d21 = q_R δ) from ⟨i23, ⟨kp_w (by decide) u24, v25, v26⟩⟩)
set_option maxHeartbeats 4000000 in
theorem k_X2_refusal {ad : List Nat} {h : hp} (L : Lay TLx ad h) {δ0 : dp} {N : Nat} (hN : 10000000 ≤ N) {a0 : Nat} {x1 : Int32} {x2 : Int32} (k_a0 : q_K h.1 a0 = 2) {δ : dp} (I : CI ad h.1 δ0 δ) : ok (D_X2_refusal N h.1 a0 x1 x2 δ) (fun r => r.2 = δ) := by
  unfold D_X2_refusal
  obtain ⟨b1, o2, k3⟩ := gO_2_0 L k_a0
  refine ok_at o2 ?_
  obtain ⟨b4, o5, k6, ⟨n7, n8⟩, w9⟩ := gO_3_0 L k3
  have f10 := cb_3_1 I k3 o5
  have f11 := ti_b x1
  first | (have q13 := te_add (q_I δ 3 1 b1) x1 (by omega) (by omega); obtain ⟨f14, f15, f16⟩ := q13) | (obtain ⟨q13, f14, f15, f16⟩ := ti_add (q_I δ 3 1 b1) x1)
  refine ok_ite (fun h17 => ?_) (fun h17 => ?_)
  · have c18 : ((q_I δ 3 1 b1) + x1).toInt ≤ (2000 : Int) := o_le h17
    have f19 := cb_2_4 I k_a0
    first | (have q21 := te_add (q_I δ 2 4 a0) x1 (by omega) (by omega); obtain ⟨f22, f23, f24⟩ := q21) | (obtain ⟨q21, f22, f23, f24⟩ := ti_add (q_I δ 2 4 a0) x1)
    have f25 := ti_b x2
    first | (have q27 := te_add ((q_I δ 2 4 a0) + x1) x2 (by omega) (by omega); obtain ⟨f28, f29, f30⟩ := q27) | (obtain ⟨q27, f28, f29, f30⟩ := ti_add ((q_I δ 2 4 a0) + x1) x2)
    refine ok_ite (fun h31 => ?_) (fun h31 => ?_)
    · have c32 : (((q_I δ 2 4 a0) + x1) + x2).toInt ≤ (1000 : Int) := o_le h31
      unfold J_X2_refusal_37
      exact ok_some (show δ = δ from rfl)
    · have c33 : (1000 : Int) < (((q_I δ 2 4 a0) + x1) + x2).toInt := o_nle h31
      unfold J_X2_refusal_37
      exact ok_some (show δ = δ from rfl)
  · have c34 : (2000 : Int) < ((q_I δ 3 1 b1) + x1).toInt := o_nle h17
    exact ok_some (show δ = δ from rfl)
set_option maxHeartbeats 4000000 in
theorem k_X2_make {ad : List Nat} {h : hp} (L : Lay TLx ad h) {δ0 : dp} {N : Nat} (hN : 10000000 ≤ N) {a0 : Nat} {x1 : Int32} {x2 : Int32} (k_a0 : q_K h.1 a0 = 2) {δ : dp} (I : CI ad h.1 δ0 δ) : ok (D_X2_make N h.1 a0 x1 x2 δ) (fun r => CI ad h.1 δ0 r.2 ∧ (kp [(1, 3), (1, 4), (1, 5), (1, 6), (1, 7), (1, 8), (1, 9), (1, 10), (1, 11), (1, 12), (1, 13), (1, 14), (1, 15), (2, 4), (3, 1)] δ r.2 ∧ q_V r.2 = q_V δ)) := by
  unfold D_X2_make
  obtain ⟨b1, o2, k3⟩ := gO_2_1 L k_a0
  refine ok_at o2 ?_
  obtain ⟨b6, o7, k8⟩ := gO_1_1 L k3
  refine ok_bind (k_X1_touchesOf L hN (a0 := b1) (x1 := x1) (x2 := x2) k3 o7 k8 I) (fun r4 hr5 => ?_)
  obtain ⟨i9, ⟨u10, u11, u12⟩⟩ := hr5
  have u13 := kp_t kp_r u10
  have v14 : q_V r4.2 = q_V δ := (u11).trans rfl
  have f15 := ti_b r4.1
  have f16 := ti_b x1
  refine ok_ite (fun h17 => ?_) (fun h17 => ?_)
  · have c18 : x1.toInt = (0 : Int) := o_eq h17
    obtain ⟨b19, o20, k21⟩ := gO_2_0 L k_a0
    refine ok_at o20 ?_
    refine ok_bind (k_X3_add L hN (a0 := b19) (x1 := x2) k21 i9) (fun r22 hr23 => ?_)
    obtain ⟨i24, ⟨u26, u27⟩, p25⟩ := hr23
    have u28 := kp_t u13 u26
    have v29 : q_V r22.2 = q_V δ := (u27).trans v14
    have f30 := bo_t p25
    have f31 := ti_b r22.1
    unfold J_X2_make_33
    refine ok_ite (fun h32 => ?_) (fun h32 => ?_)
    · have c33 : r22.1.toInt = (0 : Int) := o_eq h32
      unfold J_X2_make_84
      exact ok_some (show CI ad h.1 δ0 r22.2 ∧ (kp [(1, 3), (1, 4), (1, 5), (1, 6), (1, 7), (1, 8), (1, 9), (1, 10), (1, 11), (1, 12), (1, 13), (1, 14), (1, 15), (2, 4), (3, 1)] δ r22.2 ∧ q_V r22.2 = q_V δ) from ⟨i24, ⟨kp_w (by decide) u28, v29⟩⟩)
    · have c34 : r22.1.toInt ≠ (0 : Int) := o_ne h32
      have f35 : (q_I r22.2 2 4 a0).toInt = (q_I δ 2 4 a0).toInt := ((show (q_I r22.2 2 4 a0).toInt = (q_I r4.2 2 4 a0).toInt from congrArg Int32.toInt (u26 2 4 a0 (by decide))).trans (show (q_I r4.2 2 4 a0).toInt = (q_I δ 2 4 a0).toInt from congrArg Int32.toInt (u10 2 4 a0 (by decide))))
      have f36 := cb_2_4 I k_a0
      refine ok_ite (fun h37 => ?_) (fun h37 => ?_)
      · have c38 : (1000 : Int) ≤ (q_I r22.2 2 4 a0).toInt := o_le h37
        unfold J_X2_make_84
        exact ok_some (show CI ad h.1 δ0 r22.2 ∧ (kp [(1, 3), (1, 4), (1, 5), (1, 6), (1, 7), (1, 8), (1, 9), (1, 10), (1, 11), (1, 12), (1, 13), (1, 14), (1, 15), (2, 4), (3, 1)] δ r22.2 ∧ q_V r22.2 = q_V δ) from ⟨i24, ⟨kp_w (by decide) u28, v29⟩⟩)
      · have c39 : (q_I r22.2 2 4 a0).toInt < (1000 : Int) := o_nle h37
        obtain ⟨b40, o41, k42, n43, w44⟩ := gO_2_2 L k_a0
        refine ok_at o41 ?_
        have t45 := ti_tn (q_I r22.2 2 4 a0)
        refine ok_gd (fun hc46 => ?_) ?_
        · rcases hc46 with hc46 | hc46
          · have c47 : (q_I r22.2 2 4 a0).toInt < (0 : Int) := o_lt hc46
            omega
          · omega
        refine ok_bdv (fun d48 e49 => ?_)
        have i50 : CI ad h.1 δ0 d48 := by rw [e49]; exact CI.sR L i24 w44
        have u51 := kp_N u28 (show q_I d48 = q_I r22.2 by rw [e49]; rfl)
        have v52 : q_V d48 = q_V δ := ((show q_V d48 = q_V r22.2 by rw [e49]; rfl)).trans v29
        obtain ⟨b53, o54, k55, n56, w57⟩ := gO_2_3 L k_a0
        refine ok_at o54 ?_
        have f58 : (q_I d48 2 4 a0).toInt = (q_I r22.2 2 4 a0).toInt := congrArg Int32.toInt (by rw [e49]; rfl)
        have t59 := ti_tn (q_I d48 2 4 a0)
        refine ok_gd (fun hc60 => ?_) ?_
        · rcases hc60 with hc60 | hc60
          · have c61 : (q_I d48 2 4 a0).toInt < (0 : Int) := o_lt hc60
            omega
          · omega
        refine ok_bdv (fun d62 e63 => ?_)
        have i64 : CI ad h.1 δ0 d62 := by rw [e63]; exact CI.sR L i50 w57
        have u65 := kp_N u51 (show q_I d62 = q_I d48 by rw [e63]; rfl)
        have v66 : q_V d62 = q_V δ := ((show q_V d62 = q_V d48 by rw [e63]; rfl)).trans v52
        have f70 : (q_I d62 2 4 a0).toInt = (q_I d48 2 4 a0).toInt := congrArg Int32.toInt (by rw [e63]; rfl)
        first | (have q72 := te_addc (c := 1) (n := 1) rfl (q_I d62 2 4 a0) (by omega) (by omega); obtain ⟨f73, f74, f75⟩ := q72) | (obtain ⟨q72, f73, f74, f75⟩ := ti_addc (c := 1) (n := 1) rfl (q_I d62 2 4 a0))
        refine ok_bdv (fun d67 e68 => ?_)
        have i69 : CI ad h.1 δ0 d67 := by rw [e68]; exact cs_2_4 L i64 k_a0 (show 0 ≤ ((q_I d62 2 4 a0) + (1 : Int32)).toInt by omega) (show ((q_I d62 2 4 a0) + (1 : Int32)).toInt ≤ 1000 by omega)
        have u76 := kp_I u65 e68
        have v77 : q_V d67 = q_V δ := ((show q_V d67 = q_V d62 by rw [e68]; rfl)).trans v66
        unfold J_X2_make_84
        exact ok_some (show CI ad h.1 δ0 d67 ∧ (kp [(1, 3), (1, 4), (1, 5), (1, 6), (1, 7), (1, 8), (1, 9), (1, 10), (1, 11), (1, 12), (1, 13), (1, 14), (1, 15), (2, 4), (3, 1)] δ d67 ∧ q_V d67 = q_V δ) from ⟨i69, ⟨kp_w (by decide) u76, v77⟩⟩)
  · have c78 : x1.toInt ≠ (0 : Int) := o_ne h17
    obtain ⟨b79, o80, k81⟩ := gO_2_0 L k_a0
    refine ok_at o80 ?_
    refine ok_bind (k_X3_remove L hN (a0 := b79) (x1 := x2) k81 i9) (fun r82 hr83 => ?_)
    obtain ⟨i84, ⟨u86, u87⟩, p85⟩ := hr83
    have u88 := kp_t u13 u86
    have v89 : q_V r82.2 = q_V δ := (u87).trans v14
    have f90 := bo_t p85
    have f91 := ti_b r82.1
    unfold J_X2_make_33
    refine ok_ite (fun h92 => ?_) (fun h92 => ?_)
    · have c93 : r82.1.toInt = (0 : Int) := o_eq h92
      unfold J_X2_make_84
      exact ok_some (show CI ad h.1 δ0 r82.2 ∧ (kp [(1, 3), (1, 4), (1, 5), (1, 6), (1, 7), (1, 8), (1, 9), (1, 10), (1, 11), (1, 12), (1, 13), (1, 14), (1, 15), (2, 4), (3, 1)] δ r82.2 ∧ q_V r82.2 = q_V δ) from ⟨i84, ⟨kp_w (by decide) u88, v89⟩⟩)
    · have c94 : r82.1.toInt ≠ (0 : Int) := o_ne h92
      have f95 : (q_I r82.2 2 4 a0).toInt = (q_I δ 2 4 a0).toInt := ((show (q_I r82.2 2 4 a0).toInt = (q_I r4.2 2 4 a0).toInt from congrArg Int32.toInt (u86 2 4 a0 (by decide))).trans (show (q_I r4.2 2 4 a0).toInt = (q_I δ 2 4 a0).toInt from congrArg Int32.toInt (u10 2 4 a0 (by decide))))
      have f96 := cb_2_4 I k_a0
      refine ok_ite (fun h97 => ?_) (fun h97 => ?_)
      · have c98 : (1000 : Int) ≤ (q_I r82.2 2 4 a0).toInt := o_le h97
        unfold J_X2_make_84
        exact ok_some (show CI ad h.1 δ0 r82.2 ∧ (kp [(1, 3), (1, 4), (1, 5), (1, 6), (1, 7), (1, 8), (1, 9), (1, 10), (1, 11), (1, 12), (1, 13), (1, 14), (1, 15), (2, 4), (3, 1)] δ r82.2 ∧ q_V r82.2 = q_V δ) from ⟨i84, ⟨kp_w (by decide) u88, v89⟩⟩)
      · have c99 : (q_I r82.2 2 4 a0).toInt < (1000 : Int) := o_nle h97
        obtain ⟨b100, o101, k102, n103, w104⟩ := gO_2_2 L k_a0
        refine ok_at o101 ?_
        have t105 := ti_tn (q_I r82.2 2 4 a0)
        refine ok_gd (fun hc106 => ?_) ?_
        · rcases hc106 with hc106 | hc106
          · have c107 : (q_I r82.2 2 4 a0).toInt < (0 : Int) := o_lt hc106
            omega
          · omega
        refine ok_bdv (fun d108 e109 => ?_)
        have i110 : CI ad h.1 δ0 d108 := by rw [e109]; exact CI.sR L i84 w104
        have u111 := kp_N u88 (show q_I d108 = q_I r82.2 by rw [e109]; rfl)
        have v112 : q_V d108 = q_V δ := ((show q_V d108 = q_V r82.2 by rw [e109]; rfl)).trans v89
        obtain ⟨b113, o114, k115, n116, w117⟩ := gO_2_3 L k_a0
        refine ok_at o114 ?_
        have f118 : (q_I d108 2 4 a0).toInt = (q_I r82.2 2 4 a0).toInt := congrArg Int32.toInt (by rw [e109]; rfl)
        have t119 := ti_tn (q_I d108 2 4 a0)
        refine ok_gd (fun hc120 => ?_) ?_
        · rcases hc120 with hc120 | hc120
          · have c121 : (q_I d108 2 4 a0).toInt < (0 : Int) := o_lt hc120
            omega
          · omega
        refine ok_bdv (fun d122 e123 => ?_)
        have i124 : CI ad h.1 δ0 d122 := by rw [e123]; exact CI.sR L i110 w117
        have u125 := kp_N u111 (show q_I d122 = q_I d108 by rw [e123]; rfl)
        have v126 : q_V d122 = q_V δ := ((show q_V d122 = q_V d108 by rw [e123]; rfl)).trans v112
        have f130 : (q_I d122 2 4 a0).toInt = (q_I d108 2 4 a0).toInt := congrArg Int32.toInt (by rw [e123]; rfl)
        first | (have q132 := te_addc (c := 1) (n := 1) rfl (q_I d122 2 4 a0) (by omega) (by omega); obtain ⟨f133, f134, f135⟩ := q132) | (obtain ⟨q132, f133, f134, f135⟩ := ti_addc (c := 1) (n := 1) rfl (q_I d122 2 4 a0))
        refine ok_bdv (fun d127 e128 => ?_)
        have i129 : CI ad h.1 δ0 d127 := by rw [e128]; exact cs_2_4 L i124 k_a0 (show 0 ≤ ((q_I d122 2 4 a0) + (1 : Int32)).toInt by omega) (show ((q_I d122 2 4 a0) + (1 : Int32)).toInt ≤ 1000 by omega)
        have u136 := kp_I u125 e128
        have v137 : q_V d127 = q_V δ := ((show q_V d127 = q_V d122 by rw [e128]; rfl)).trans v126
        unfold J_X2_make_84
        exact ok_some (show CI ad h.1 δ0 d127 ∧ (kp [(1, 3), (1, 4), (1, 5), (1, 6), (1, 7), (1, 8), (1, 9), (1, 10), (1, 11), (1, 12), (1, 13), (1, 14), (1, 15), (2, 4), (3, 1)] δ d127 ∧ q_V d127 = q_V δ) from ⟨i129, ⟨kp_w (by decide) u136, v137⟩⟩)
set_option maxHeartbeats 4000000 in
theorem k_X2_change {ad : List Nat} {h : hp} (L : Lay TLx ad h) {δ0 : dp} {N : Nat} (hN : 10000000 ≤ N) {a0 : Nat} {x1 : Int32} {x2 : Int32} (k_a0 : q_K h.1 a0 = 2) {δ : dp} (I : CI ad h.1 δ0 δ) : ok (D_X2_change N h.1 a0 x1 x2 δ) (fun r => CI ad h.1 δ0 r.2 ∧ (kp [(1, 3), (1, 4), (1, 5), (1, 6), (1, 7), (1, 8), (1, 9), (1, 10), (1, 11), (1, 12), (1, 13), (1, 14), (1, 15), (2, 4), (3, 1)] δ r.2 ∧ q_V r.2 = q_V δ)) := by
  unfold D_X2_change
  have f1 := ti_b x1
  refine ok_ite (fun h2 => ?_) (fun h2 => ?_)
  · have c3 : x1.toInt = (0 : Int) := o_eq h2
    unfold J_X2_change_9
    obtain ⟨b4, o5, k6⟩ := gO_2_0 L k_a0
    refine ok_at o5 ?_
    refine ok_bind (k_X3_holds L hN (a0 := b4) (x1 := x2) k6 I) (fun r7 hr8 => ?_)
    obtain ⟨i9, p10⟩ := hr8
    try rw [i9]
    have f11 := bo_t p10
    have f12 := ti_b r7.1
    refine ok_ite (fun h13 => ?_) (fun h13 => ?_)
    · have c14 : r7.1.toInt = (1 : Int) := o_eq h13
      exact ok_some (show CI ad h.1 δ0 δ ∧ (kp [(1, 3), (1, 4), (1, 5), (1, 6), (1, 7), (1, 8), (1, 9), (1, 10), (1, 11), (1, 12), (1, 13), (1, 14), (1, 15), (2, 4), (3, 1)] δ δ ∧ q_V δ = q_V δ) from ⟨I, ⟨kp_w (by decide) kp_r, rfl⟩⟩)
    · have c15 : r7.1.toInt ≠ (1 : Int) := o_ne h13
      refine ok_ite (fun h16 => ?_) (fun h16 => ?_)
      · have c17 : (1 : Int) = (0 : Int) := o_eq h16
        unfold J_X2_change_34
        refine ok_ite (fun h18 => ?_) (fun h18 => ?_)
        · have c19 : (1 : Int) = (0 : Int) := o_eq h18
          unfold J_X2_change_43
          refine ok_bind (k_X2_refusal L hN (a0 := a0) (x1 := (0 : Int32)) (x2 := (1 : Int32)) k_a0 I) (fun r20 hr21 => ?_)
          have i22 := hr21
          try rw [i22]
          have f23 := ti_b r20.1
          refine ok_ite (fun h24 => ?_) (fun h24 => ?_)
          · have c25 : (0 : Int) ≤ r20.1.toInt := o_le h24
            refine ok_bind (k_X2_make L hN (a0 := a0) (x1 := x1) (x2 := x2) k_a0 I) (fun r26 hr27 => ?_)
            obtain ⟨i28, ⟨u29, u30⟩⟩ := hr27
            have u31 := kp_t kp_r u29
            have v32 : q_V r26.2 = q_V δ := (u30).trans rfl
            have f33 := ti_b r26.1
            exact ok_some (show CI ad h.1 δ0 r26.2 ∧ (kp [(1, 3), (1, 4), (1, 5), (1, 6), (1, 7), (1, 8), (1, 9), (1, 10), (1, 11), (1, 12), (1, 13), (1, 14), (1, 15), (2, 4), (3, 1)] δ r26.2 ∧ q_V r26.2 = q_V δ) from ⟨i28, ⟨kp_w (by decide) u31, v32⟩⟩)
          · have c34 : r20.1.toInt < (0 : Int) := o_nle h24
            exact ok_some (show CI ad h.1 δ0 δ ∧ (kp [(1, 3), (1, 4), (1, 5), (1, 6), (1, 7), (1, 8), (1, 9), (1, 10), (1, 11), (1, 12), (1, 13), (1, 14), (1, 15), (2, 4), (3, 1)] δ δ ∧ q_V δ = q_V δ) from ⟨I, ⟨kp_w (by decide) kp_r, rfl⟩⟩)
        · have c35 : (1 : Int) ≠ (0 : Int) := o_ne h18
          unfold J_X2_change_43
          refine ok_bind (k_X2_refusal L hN (a0 := a0) (x1 := (0 : Int32)) (x2 := (0 : Int32)) k_a0 I) (fun r36 hr37 => ?_)
          have i38 := hr37
          try rw [i38]
          have f39 := ti_b r36.1
          refine ok_ite (fun h40 => ?_) (fun h40 => ?_)
          · have c41 : (0 : Int) ≤ r36.1.toInt := o_le h40
            refine ok_bind (k_X2_make L hN (a0 := a0) (x1 := x1) (x2 := x2) k_a0 I) (fun r42 hr43 => ?_)
            obtain ⟨i44, ⟨u45, u46⟩⟩ := hr43
            have u47 := kp_t kp_r u45
            have v48 : q_V r42.2 = q_V δ := (u46).trans rfl
            have f49 := ti_b r42.1
            exact ok_some (show CI ad h.1 δ0 r42.2 ∧ (kp [(1, 3), (1, 4), (1, 5), (1, 6), (1, 7), (1, 8), (1, 9), (1, 10), (1, 11), (1, 12), (1, 13), (1, 14), (1, 15), (2, 4), (3, 1)] δ r42.2 ∧ q_V r42.2 = q_V δ) from ⟨i44, ⟨kp_w (by decide) u47, v48⟩⟩)
          · have c50 : r36.1.toInt < (0 : Int) := o_nle h40
            exact ok_some (show CI ad h.1 δ0 δ ∧ (kp [(1, 3), (1, 4), (1, 5), (1, 6), (1, 7), (1, 8), (1, 9), (1, 10), (1, 11), (1, 12), (1, 13), (1, 14), (1, 15), (2, 4), (3, 1)] δ δ ∧ q_V δ = q_V δ) from ⟨I, ⟨kp_w (by decide) kp_r, rfl⟩⟩)
      · have c51 : (1 : Int) ≠ (0 : Int) := o_ne h16
        unfold J_X2_change_34
        refine ok_ite (fun h52 => ?_) (fun h52 => ?_)
        · have c53 : (1 : Int) = (0 : Int) := o_eq h52
          unfold J_X2_change_43
          refine ok_bind (k_X2_refusal L hN (a0 := a0) (x1 := (1 : Int32)) (x2 := (1 : Int32)) k_a0 I) (fun r54 hr55 => ?_)
          have i56 := hr55
          try rw [i56]
          have f57 := ti_b r54.1
          refine ok_ite (fun h58 => ?_) (fun h58 => ?_)
          · have c59 : (0 : Int) ≤ r54.1.toInt := o_le h58
            refine ok_bind (k_X2_make L hN (a0 := a0) (x1 := x1) (x2 := x2) k_a0 I) (fun r60 hr61 => ?_)
            obtain ⟨i62, ⟨u63, u64⟩⟩ := hr61
            have u65 := kp_t kp_r u63
            have v66 : q_V r60.2 = q_V δ := (u64).trans rfl
            have f67 := ti_b r60.1
            exact ok_some (show CI ad h.1 δ0 r60.2 ∧ (kp [(1, 3), (1, 4), (1, 5), (1, 6), (1, 7), (1, 8), (1, 9), (1, 10), (1, 11), (1, 12), (1, 13), (1, 14), (1, 15), (2, 4), (3, 1)] δ r60.2 ∧ q_V r60.2 = q_V δ) from ⟨i62, ⟨kp_w (by decide) u65, v66⟩⟩)
          · have c68 : r54.1.toInt < (0 : Int) := o_nle h58
            exact ok_some (show CI ad h.1 δ0 δ ∧ (kp [(1, 3), (1, 4), (1, 5), (1, 6), (1, 7), (1, 8), (1, 9), (1, 10), (1, 11), (1, 12), (1, 13), (1, 14), (1, 15), (2, 4), (3, 1)] δ δ ∧ q_V δ = q_V δ) from ⟨I, ⟨kp_w (by decide) kp_r, rfl⟩⟩)
        · have c69 : (1 : Int) ≠ (0 : Int) := o_ne h52
          unfold J_X2_change_43
          refine ok_bind (k_X2_refusal L hN (a0 := a0) (x1 := (1 : Int32)) (x2 := (0 : Int32)) k_a0 I) (fun r70 hr71 => ?_)
          have i72 := hr71
          try rw [i72]
          have f73 := ti_b r70.1
          refine ok_ite (fun h74 => ?_) (fun h74 => ?_)
          · have c75 : (0 : Int) ≤ r70.1.toInt := o_le h74
            refine ok_bind (k_X2_make L hN (a0 := a0) (x1 := x1) (x2 := x2) k_a0 I) (fun r76 hr77 => ?_)
            obtain ⟨i78, ⟨u79, u80⟩⟩ := hr77
            have u81 := kp_t kp_r u79
            have v82 : q_V r76.2 = q_V δ := (u80).trans rfl
            have f83 := ti_b r76.1
            exact ok_some (show CI ad h.1 δ0 r76.2 ∧ (kp [(1, 3), (1, 4), (1, 5), (1, 6), (1, 7), (1, 8), (1, 9), (1, 10), (1, 11), (1, 12), (1, 13), (1, 14), (1, 15), (2, 4), (3, 1)] δ r76.2 ∧ q_V r76.2 = q_V δ) from ⟨i78, ⟨kp_w (by decide) u81, v82⟩⟩)
          · have c84 : r70.1.toInt < (0 : Int) := o_nle h74
            exact ok_some (show CI ad h.1 δ0 δ ∧ (kp [(1, 3), (1, 4), (1, 5), (1, 6), (1, 7), (1, 8), (1, 9), (1, 10), (1, 11), (1, 12), (1, 13), (1, 14), (1, 15), (2, 4), (3, 1)] δ δ ∧ q_V δ = q_V δ) from ⟨I, ⟨kp_w (by decide) kp_r, rfl⟩⟩)
  · have c85 : x1.toInt ≠ (0 : Int) := o_ne h2
    unfold J_X2_change_9
    obtain ⟨b86, o87, k88⟩ := gO_2_0 L k_a0
    refine ok_at o87 ?_
    refine ok_bind (k_X3_holds L hN (a0 := b86) (x1 := x2) k88 I) (fun r89 hr90 => ?_)
    obtain ⟨i91, p92⟩ := hr90
    try rw [i91]
    have f93 := bo_t p92
    have f94 := ti_b r89.1
    refine ok_ite (fun h95 => ?_) (fun h95 => ?_)
    · have c96 : r89.1.toInt = (0 : Int) := o_eq h95
      exact ok_some (show CI ad h.1 δ0 δ ∧ (kp [(1, 3), (1, 4), (1, 5), (1, 6), (1, 7), (1, 8), (1, 9), (1, 10), (1, 11), (1, 12), (1, 13), (1, 14), (1, 15), (2, 4), (3, 1)] δ δ ∧ q_V δ = q_V δ) from ⟨I, ⟨kp_w (by decide) kp_r, rfl⟩⟩)
    · have c97 : r89.1.toInt ≠ (0 : Int) := o_ne h95
      refine ok_ite (fun h98 => ?_) (fun h98 => ?_)
      · have c99 : (0 : Int) = (0 : Int) := o_eq h98
        unfold J_X2_change_34
        refine ok_ite (fun h100 => ?_) (fun h100 => ?_)
        · have c101 : (0 : Int) = (0 : Int) := o_eq h100
          unfold J_X2_change_43
          refine ok_bind (k_X2_refusal L hN (a0 := a0) (x1 := (0 : Int32)) (x2 := (1 : Int32)) k_a0 I) (fun r102 hr103 => ?_)
          have i104 := hr103
          try rw [i104]
          have f105 := ti_b r102.1
          refine ok_ite (fun h106 => ?_) (fun h106 => ?_)
          · have c107 : (0 : Int) ≤ r102.1.toInt := o_le h106
            refine ok_bind (k_X2_make L hN (a0 := a0) (x1 := x1) (x2 := x2) k_a0 I) (fun r108 hr109 => ?_)
            obtain ⟨i110, ⟨u111, u112⟩⟩ := hr109
            have u113 := kp_t kp_r u111
            have v114 : q_V r108.2 = q_V δ := (u112).trans rfl
            have f115 := ti_b r108.1
            exact ok_some (show CI ad h.1 δ0 r108.2 ∧ (kp [(1, 3), (1, 4), (1, 5), (1, 6), (1, 7), (1, 8), (1, 9), (1, 10), (1, 11), (1, 12), (1, 13), (1, 14), (1, 15), (2, 4), (3, 1)] δ r108.2 ∧ q_V r108.2 = q_V δ) from ⟨i110, ⟨kp_w (by decide) u113, v114⟩⟩)
          · have c116 : r102.1.toInt < (0 : Int) := o_nle h106
            exact ok_some (show CI ad h.1 δ0 δ ∧ (kp [(1, 3), (1, 4), (1, 5), (1, 6), (1, 7), (1, 8), (1, 9), (1, 10), (1, 11), (1, 12), (1, 13), (1, 14), (1, 15), (2, 4), (3, 1)] δ δ ∧ q_V δ = q_V δ) from ⟨I, ⟨kp_w (by decide) kp_r, rfl⟩⟩)
        · have c117 : (0 : Int) ≠ (0 : Int) := o_ne h100
          unfold J_X2_change_43
          refine ok_bind (k_X2_refusal L hN (a0 := a0) (x1 := (0 : Int32)) (x2 := (0 : Int32)) k_a0 I) (fun r118 hr119 => ?_)
          have i120 := hr119
          try rw [i120]
          have f121 := ti_b r118.1
          refine ok_ite (fun h122 => ?_) (fun h122 => ?_)
          · have c123 : (0 : Int) ≤ r118.1.toInt := o_le h122
            refine ok_bind (k_X2_make L hN (a0 := a0) (x1 := x1) (x2 := x2) k_a0 I) (fun r124 hr125 => ?_)
            obtain ⟨i126, ⟨u127, u128⟩⟩ := hr125
            have u129 := kp_t kp_r u127
            have v130 : q_V r124.2 = q_V δ := (u128).trans rfl
            have f131 := ti_b r124.1
            exact ok_some (show CI ad h.1 δ0 r124.2 ∧ (kp [(1, 3), (1, 4), (1, 5), (1, 6), (1, 7), (1, 8), (1, 9), (1, 10), (1, 11), (1, 12), (1, 13), (1, 14), (1, 15), (2, 4), (3, 1)] δ r124.2 ∧ q_V r124.2 = q_V δ) from ⟨i126, ⟨kp_w (by decide) u129, v130⟩⟩)
          · have c132 : r118.1.toInt < (0 : Int) := o_nle h122
            exact ok_some (show CI ad h.1 δ0 δ ∧ (kp [(1, 3), (1, 4), (1, 5), (1, 6), (1, 7), (1, 8), (1, 9), (1, 10), (1, 11), (1, 12), (1, 13), (1, 14), (1, 15), (2, 4), (3, 1)] δ δ ∧ q_V δ = q_V δ) from ⟨I, ⟨kp_w (by decide) kp_r, rfl⟩⟩)
      · have c133 : (0 : Int) ≠ (0 : Int) := o_ne h98
        unfold J_X2_change_34
        refine ok_ite (fun h134 => ?_) (fun h134 => ?_)
        · have c135 : (0 : Int) = (0 : Int) := o_eq h134
          unfold J_X2_change_43
          refine ok_bind (k_X2_refusal L hN (a0 := a0) (x1 := (1 : Int32)) (x2 := (1 : Int32)) k_a0 I) (fun r136 hr137 => ?_)
          have i138 := hr137
          try rw [i138]
          have f139 := ti_b r136.1
          refine ok_ite (fun h140 => ?_) (fun h140 => ?_)
          · have c141 : (0 : Int) ≤ r136.1.toInt := o_le h140
            refine ok_bind (k_X2_make L hN (a0 := a0) (x1 := x1) (x2 := x2) k_a0 I) (fun r142 hr143 => ?_)
            obtain ⟨i144, ⟨u145, u146⟩⟩ := hr143
            have u147 := kp_t kp_r u145
            have v148 : q_V r142.2 = q_V δ := (u146).trans rfl
            have f149 := ti_b r142.1
            exact ok_some (show CI ad h.1 δ0 r142.2 ∧ (kp [(1, 3), (1, 4), (1, 5), (1, 6), (1, 7), (1, 8), (1, 9), (1, 10), (1, 11), (1, 12), (1, 13), (1, 14), (1, 15), (2, 4), (3, 1)] δ r142.2 ∧ q_V r142.2 = q_V δ) from ⟨i144, ⟨kp_w (by decide) u147, v148⟩⟩)
          · have c150 : r136.1.toInt < (0 : Int) := o_nle h140
            exact ok_some (show CI ad h.1 δ0 δ ∧ (kp [(1, 3), (1, 4), (1, 5), (1, 6), (1, 7), (1, 8), (1, 9), (1, 10), (1, 11), (1, 12), (1, 13), (1, 14), (1, 15), (2, 4), (3, 1)] δ δ ∧ q_V δ = q_V δ) from ⟨I, ⟨kp_w (by decide) kp_r, rfl⟩⟩)
        · have c151 : (0 : Int) ≠ (0 : Int) := o_ne h134
          unfold J_X2_change_43
          refine ok_bind (k_X2_refusal L hN (a0 := a0) (x1 := (1 : Int32)) (x2 := (0 : Int32)) k_a0 I) (fun r152 hr153 => ?_)
          have i154 := hr153
          try rw [i154]
          have f155 := ti_b r152.1
          refine ok_ite (fun h156 => ?_) (fun h156 => ?_)
          · have c157 : (0 : Int) ≤ r152.1.toInt := o_le h156
            refine ok_bind (k_X2_make L hN (a0 := a0) (x1 := x1) (x2 := x2) k_a0 I) (fun r158 hr159 => ?_)
            obtain ⟨i160, ⟨u161, u162⟩⟩ := hr159
            have u163 := kp_t kp_r u161
            have v164 : q_V r158.2 = q_V δ := (u162).trans rfl
            have f165 := ti_b r158.1
            exact ok_some (show CI ad h.1 δ0 r158.2 ∧ (kp [(1, 3), (1, 4), (1, 5), (1, 6), (1, 7), (1, 8), (1, 9), (1, 10), (1, 11), (1, 12), (1, 13), (1, 14), (1, 15), (2, 4), (3, 1)] δ r158.2 ∧ q_V r158.2 = q_V δ) from ⟨i160, ⟨kp_w (by decide) u163, v164⟩⟩)
          · have c166 : r152.1.toInt < (0 : Int) := o_nle h156
            exact ok_some (show CI ad h.1 δ0 δ ∧ (kp [(1, 3), (1, 4), (1, 5), (1, 6), (1, 7), (1, 8), (1, 9), (1, 10), (1, 11), (1, 12), (1, 13), (1, 14), (1, 15), (2, 4), (3, 1)] δ δ ∧ q_V δ = q_V δ) from ⟨I, ⟨kp_w (by decide) kp_r, rfl⟩⟩)
set_option maxHeartbeats 4000000 in
theorem k_X2_replay {ad : List Nat} {h : hp} (L : Lay TLx ad h) {δ0 : dp} {N : Nat} (hN : 10000000 ≤ N) {a0 : Nat} {a1 : Nat} {x2 : Int32} {x3 : Int32} (k_a0 : q_K h.1 a0 = 2) (k_a1 : q_K h.1 a1 = 3) {δ : dp} (z0 : 0 ≤ (x2).toInt) (z1 : (x2).toInt < 1000) (I : CI ad h.1 δ0 δ) : ok (D_X2_replay N h.1 a0 a1 x2 x3 δ) (fun r => CI ad h.1 δ0 r ∧ (kp [(3, 1)] δ r ∧ q_V r = q_V δ)) := by
  unfold D_X2_replay
  have f1 := ti_b x2
  obtain ⟨b2, o3, k4, n5, w6⟩ := gO_2_2 L k_a0
  refine ok_at o3 ?_
  have t7 := ti_tn x2
  refine ok_gd (fun hc8 => ?_) ?_
  · rcases hc8 with hc8 | hc8
    · have c9 : x2.toInt < (0 : Int) := o_lt hc8
      omega
    · omega
  have f10 := ti_b (q_R δ b2 x2.toNatClampNeg)
  have f12 := ti_div (c := 2) (n := 2) rfl (by decide) (q_R δ b2 x2.toNatClampNeg)
  have f13 := ti_b ((q_R δ b2 x2.toNatClampNeg) / (2 : Int32))
  first | (have q14 := te_mulr (c := 2) (n := 2) rfl ((q_R δ b2 x2.toNatClampNeg) / (2 : Int32)) (by omega) (by omega); obtain ⟨f15, f16, f17⟩ := q14) | (obtain ⟨q14, f15, f16, f17⟩ := ti_mulr (c := 2) (n := 2) rfl ((q_R δ b2 x2.toNatClampNeg) / (2 : Int32)))
  first | (have q19 := te_sub (q_R δ b2 x2.toNatClampNeg) ((q_R δ b2 x2.toNatClampNeg) / (2 : Int32) * (2 : Int32)) (by omega) (by omega); obtain ⟨f20, f21, f22⟩ := q19) | (obtain ⟨q19, f20, f21, f22⟩ := ti_sub (q_R δ b2 x2.toNatClampNeg) ((q_R δ b2 x2.toNatClampNeg) / (2 : Int32) * (2 : Int32)))
  refine ok_ite (fun h23 => ?_) (fun h23 => ?_)
  · have c24 : ((q_R δ b2 x2.toNatClampNeg) - (q_R δ b2 x2.toNatClampNeg) / (2 : Int32) * (2 : Int32)).toInt = (0 : Int) := o_eq h23
    unfold J_X2_replay_16
    have f25 := ti_b x3
    refine ok_ite (fun h26 => ?_) (fun h26 => ?_)
    · have c27 : (1 : Int) = x3.toInt := o_eq h26
      refine ok_at o3 ?_
      refine ok_gd (fun hc28 => ?_) ?_
      · rcases hc28 with hc28 | hc28
        · have c29 : x2.toInt < (0 : Int) := o_lt hc28
          omega
        · omega
      refine ok_bind (k_X3_remove L hN (a0 := a1) (x1 := ((q_R δ b2 x2.toNatClampNeg) / (2 : Int32))) k_a1 I) (fun r30 hr31 => ?_)
      obtain ⟨i32, ⟨u34, u35⟩, p33⟩ := hr31
      have u36 := kp_t kp_r u34
      have v37 : q_V r30.2 = q_V δ := (u35).trans rfl
      have f38 := bo_t p33
      have f39 := ti_b r30.1
      unfold J_X2_replay_53
      exact ok_some (show CI ad h.1 δ0 r30.2 ∧ (kp [(3, 1)] δ r30.2 ∧ q_V r30.2 = q_V δ) from ⟨i32, ⟨kp_w (by decide) u36, v37⟩⟩)
    · have c40 : (1 : Int) ≠ x3.toInt := o_ne h26
      refine ok_at o3 ?_
      refine ok_gd (fun hc41 => ?_) ?_
      · rcases hc41 with hc41 | hc41
        · have c42 : x2.toInt < (0 : Int) := o_lt hc41
          omega
        · omega
      refine ok_bind (k_X3_add L hN (a0 := a1) (x1 := ((q_R δ b2 x2.toNatClampNeg) / (2 : Int32))) k_a1 I) (fun r43 hr44 => ?_)
      obtain ⟨i45, ⟨u47, u48⟩, p46⟩ := hr44
      have u49 := kp_t kp_r u47
      have v50 : q_V r43.2 = q_V δ := (u48).trans rfl
      have f51 := bo_t p46
      have f52 := ti_b r43.1
      unfold J_X2_replay_53
      exact ok_some (show CI ad h.1 δ0 r43.2 ∧ (kp [(3, 1)] δ r43.2 ∧ q_V r43.2 = q_V δ) from ⟨i45, ⟨kp_w (by decide) u49, v50⟩⟩)
  · have c53 : ((q_R δ b2 x2.toNatClampNeg) - (q_R δ b2 x2.toNatClampNeg) / (2 : Int32) * (2 : Int32)).toInt ≠ (0 : Int) := o_ne h23
    unfold J_X2_replay_16
    have f54 := ti_b x3
    refine ok_ite (fun h55 => ?_) (fun h55 => ?_)
    · have c56 : (0 : Int) = x3.toInt := o_eq h55
      refine ok_at o3 ?_
      refine ok_gd (fun hc57 => ?_) ?_
      · rcases hc57 with hc57 | hc57
        · have c58 : x2.toInt < (0 : Int) := o_lt hc57
          omega
        · omega
      refine ok_bind (k_X3_remove L hN (a0 := a1) (x1 := ((q_R δ b2 x2.toNatClampNeg) / (2 : Int32))) k_a1 I) (fun r59 hr60 => ?_)
      obtain ⟨i61, ⟨u63, u64⟩, p62⟩ := hr60
      have u65 := kp_t kp_r u63
      have v66 : q_V r59.2 = q_V δ := (u64).trans rfl
      have f67 := bo_t p62
      have f68 := ti_b r59.1
      unfold J_X2_replay_53
      exact ok_some (show CI ad h.1 δ0 r59.2 ∧ (kp [(3, 1)] δ r59.2 ∧ q_V r59.2 = q_V δ) from ⟨i61, ⟨kp_w (by decide) u65, v66⟩⟩)
    · have c69 : (0 : Int) ≠ x3.toInt := o_ne h55
      refine ok_at o3 ?_
      refine ok_gd (fun hc70 => ?_) ?_
      · rcases hc70 with hc70 | hc70
        · have c71 : x2.toInt < (0 : Int) := o_lt hc70
          omega
        · omega
      refine ok_bind (k_X3_add L hN (a0 := a1) (x1 := ((q_R δ b2 x2.toNatClampNeg) / (2 : Int32))) k_a1 I) (fun r72 hr73 => ?_)
      obtain ⟨i74, ⟨u76, u77⟩, p75⟩ := hr73
      have u78 := kp_t kp_r u76
      have v79 : q_V r72.2 = q_V δ := (u77).trans rfl
      have f80 := bo_t p75
      have f81 := ti_b r72.1
      unfold J_X2_replay_53
      exact ok_some (show CI ad h.1 δ0 r72.2 ∧ (kp [(3, 1)] δ r72.2 ∧ q_V r72.2 = q_V δ) from ⟨i74, ⟨kp_w (by decide) u78, v79⟩⟩)
set_option maxHeartbeats 4000000 in
theorem kl_X2_lastChange_7 {ad : List Nat} {h : hp} (L : Lay TLx ad h) {δ0 : dp} {N : Nat} (hN : 10000000 ≤ N) {a0 : Nat} {x1 : Int32} {x2 : Int32} (k_a0 : q_K h.1 a0 = 2) : ∀ (n : Nat) (x3v : Int32) (δ : dp), CI ad h.1 δ0 δ → -1 ≤ (x3v).toInt → (x3v).toInt < 1000 → (x3v).toInt + 1 < (n : Int) → ok (L_X2_lastChange_7 N h.1 a0 x1 x2 n x3v δ) (fun r => r.2 = δ) := by
  intro n
  induction n with
  | zero =>
    intro x3v δ I j0 j1 hm
    have f1 := ti_b x3v
    exfalso; omega
  | succ n ih =>
    intro x3v δ I j0 j1 hm
    unfold L_X2_lastChange_7
    have f1 := ti_b x3v
    refine ok_ite (fun h2 => ?_) (fun h2 => ?_)
    · have c3 : x3v.toInt < (0 : Int) := o_lt h2
      exact ok_some (show δ = δ from rfl)
    · have c4 : (0 : Int) ≤ x3v.toInt := o_nlt h2
      obtain ⟨b5, o6, k7, n8, w9⟩ := gO_2_2 L k_a0
      refine ok_at o6 ?_
      have t10 := ti_tn x3v
      refine ok_gd (fun hc11 => ?_) ?_
      · rcases hc11 with hc11 | hc11
        · have c12 : x3v.toInt < (0 : Int) := o_lt hc11
          omega
        · omega
      have f13 := ti_b (q_R δ b5 x3v.toNatClampNeg)
      have f15 := ti_b x2
      first | (have q16 := te_mulr (c := 2) (n := 2) rfl x2 (by omega) (by omega); obtain ⟨f17, f18, f19⟩ := q16) | (obtain ⟨q16, f17, f18, f19⟩ := ti_mulr (c := 2) (n := 2) rfl x2)
      have f20 := ti_b x1
      first | (have q22 := te_add (x2 * (2 : Int32)) x1 (by omega) (by omega); obtain ⟨f23, f24, f25⟩ := q22) | (obtain ⟨q22, f23, f24, f25⟩ := ti_add (x2 * (2 : Int32)) x1)
      refine ok_ite (fun h26 => ?_) (fun h26 => ?_)
      · have c27 : (q_R δ b5 x3v.toNatClampNeg).toInt = ((x2 * (2 : Int32)) + x1).toInt := o_eq h26
        exact ok_some (show δ = δ from rfl)
      · have c28 : (q_R δ b5 x3v.toNatClampNeg).toInt ≠ ((x2 * (2 : Int32)) + x1).toInt := o_ne h26
        refine ok_biv (fun vx29 e30 => ?_)
        first | (have q31 := te_addc (c := -1) (n := -1) (by decide) x3v (by omega) (by omega); rw [← e30] at q31; obtain ⟨f32, f33, f34⟩ := q31) | (obtain ⟨q31, f32, f33, f34⟩ : ∃ q : Int, vx29.toInt = x3v.toInt + (-1 : Int) + 4294967296 * q ∧ -2147483648 ≤ vx29.toInt ∧ vx29.toInt ≤ 2147483647 := by rw [e30]; exact ti_addc (c := -1) (n := -1) (by decide) x3v)
        refine ok_mono (ih vx29 δ I (show -1 ≤ (vx29).toInt by first | with_reducible assumption | omega) (show (vx29).toInt < 1000 by first | with_reducible assumption | omega) (show (vx29).toInt + 1 < _ by omega)) (fun r35 hr36 => ?_)
        have i37 := hr36
        have f38 := ti_b r35.1
        exact by assumption
set_option maxHeartbeats 4000000 in
theorem k_X2_lastChange {ad : List Nat} {h : hp} (L : Lay TLx ad h) {δ0 : dp} {N : Nat} (hN : 10000000 ≤ N) {a0 : Nat} {x1 : Int32} {x2 : Int32} (k_a0 : q_K h.1 a0 = 2) {δ : dp} (I : CI ad h.1 δ0 δ) : ok (D_X2_lastChange N h.1 a0 x1 x2 δ) (fun r => r.2 = δ) := by
  unfold D_X2_lastChange
  have f3 := cb_2_4 I k_a0
  refine ok_biv (fun vx1 e2 => ?_)
  first | (have q4 := te_subc (c := 1) (n := 1) rfl (q_I δ 2 4 a0) (by omega) (by omega); rw [← e2] at q4; obtain ⟨f5, f6, f7⟩ := q4) | (obtain ⟨q4, f5, f6, f7⟩ : ∃ q : Int, vx1.toInt = (q_I δ 2 4 a0).toInt - (1 : Int) + 4294967296 * q ∧ -2147483648 ≤ vx1.toInt ∧ vx1.toInt ≤ 2147483647 := by rw [e2]; exact ti_subc (c := 1) (n := 1) rfl (q_I δ 2 4 a0))
  refine ok_mono (kl_X2_lastChange_7 L hN   k_a0 _ vx1 δ I (show -1 ≤ (vx1).toInt by first | with_reducible assumption | omega) (show (vx1).toInt < 1000 by first | with_reducible assumption | omega) (show (vx1).toInt + 1 < _ by omega)) (fun r8 hr9 => ?_)
  have i10 := hr9
  have f11 := ti_b r8.1
  exact by assumption
set_option maxHeartbeats 4000000 in
theorem kl_X2_copying_4 {ad : List Nat} {h : hp} (L : Lay TLx ad h) {δ0 : dp} {N : Nat} (hN : 10000000 ≤ N) {a0 : Nat} (k_a0 : q_K h.1 a0 = 2) : ∀ (n : Nat) (x1v : Int32) (x2v : Int32) (δ : dp), CI ad h.1 δ0 δ → 0 ≤ (x2v).toInt → (x2v).toInt ≤ (q_I δ 2 4 a0).toInt → (q_I δ 2 4 a0).toInt - (x2v).toInt < (n : Int) → ok (L_X2_copying_4 N h.1 a0 n x1v x2v δ) (fun r => r.2 = δ) := by
  intro n
  induction n with
  | zero =>
    intro x1v x2v δ I j0 j1 hm
    have f1 := ti_b x2v
    have f2 := cb_2_4 I k_a0
    exfalso; omega
  | succ n ih =>
    intro x1v x2v δ I j0 j1 hm
    unfold L_X2_copying_4
    have f1 := ti_b x2v
    have f2 := cb_2_4 I k_a0
    refine ok_ite (fun h3 => ?_) (fun h3 => ?_)
    · have c4 : (q_I δ 2 4 a0).toInt ≤ x2v.toInt := o_le h3
      exact ok_some (show δ = δ from rfl)
    · have c5 : x2v.toInt < (q_I δ 2 4 a0).toInt := o_nle h3
      obtain ⟨b6, o7, k8, n9, w10⟩ := gO_2_3 L k_a0
      refine ok_at o7 ?_
      have t11 := ti_tn x2v
      refine ok_gd (fun hc12 => ?_) ?_
      · rcases hc12 with hc12 | hc12
        · have c13 : x2v.toInt < (0 : Int) := o_lt hc12
          omega
        · omega
      have f16 := ti_b x1v
      have f17 := ti_b (q_R δ b6 x2v.toNatClampNeg)
      refine ok_biv (fun vx14 e15 => ?_)
      first | (have q18 := te_add x1v (q_R δ b6 x2v.toNatClampNeg) (by omega) (by omega); rw [← e15] at q18; obtain ⟨f19, f20, f21⟩ := q18) | (obtain ⟨q18, f19, f20, f21⟩ : ∃ q : Int, vx14.toInt = x1v.toInt + (q_R δ b6 x2v.toNatClampNeg).toInt + 4294967296 * q ∧ -2147483648 ≤ vx14.toInt ∧ vx14.toInt ≤ 2147483647 := by rw [e15]; exact ti_add x1v (q_R δ b6 x2v.toNatClampNeg))
      refine ok_biv (fun vx22 e23 => ?_)
      first | (have q24 := te_addc (c := 1) (n := 1) rfl x2v (by omega) (by omega); rw [← e23] at q24; obtain ⟨f25, f26, f27⟩ := q24) | (obtain ⟨q24, f25, f26, f27⟩ : ∃ q : Int, vx22.toInt = x2v.toInt + (1 : Int) + 4294967296 * q ∧ -2147483648 ≤ vx22.toInt ∧ vx22.toInt ≤ 2147483647 := by rw [e23]; exact ti_addc (c := 1) (n := 1) rfl x2v)
      refine ok_mono (ih vx14 vx22 δ I (show 0 ≤ (vx22).toInt by first | with_reducible assumption | omega) (show (vx22).toInt ≤ (q_I δ 2 4 a0).toInt by first | with_reducible assumption | omega) (show (q_I δ 2 4 a0).toInt - (vx22).toInt < _ by omega)) (fun r28 hr29 => ?_)
      have i30 := hr29
      have f31 := ti_b r28.1
      exact by assumption
set_option maxHeartbeats 4000000 in
theorem k_X2_copying {ad : List Nat} {h : hp} (L : Lay TLx ad h) {δ0 : dp} {N : Nat} (hN : 10000000 ≤ N) {a0 : Nat} (k_a0 : q_K h.1 a0 = 2) {δ : dp} (I : CI ad h.1 δ0 δ) : ok (D_X2_copying N h.1 a0 δ) (fun r => r.2 = δ) := by
  unfold D_X2_copying
  have f1 := cb_2_4 I k_a0
  refine ok_mono (kl_X2_copying_4 L hN   k_a0 _ (0 : Int32) (0 : Int32) δ I (show 0 ≤ (0 : Int) by first | with_reducible assumption | omega) (show (0 : Int) ≤ (q_I δ 2 4 a0).toInt by first | with_reducible assumption | omega) (show (q_I δ 2 4 a0).toInt - (0 : Int) < _ by omega)) (fun r2 hr3 => ?_)
  have i4 := hr3
  have f5 := ti_b r2.1
  exact by assumption
set_option maxHeartbeats 4000000 in
theorem kl_X2_goBack_0 {ad : List Nat} {h : hp} (L : Lay TLx ad h) {δ0 : dp} {N : Nat} (hN : 10000000 ≤ N) {a0 : Nat} {x1 : Int32} (k_a0 : q_K h.1 a0 = 2) : ∀ (n : Nat) (δ : dp), CI ad h.1 δ0 δ → 0 ≤ (x1).toInt → (q_I δ 2 4 a0).toInt < (n : Int) → ok (L_X2_goBack_0 N h.1 a0 x1 n δ) (fun r => CI ad h.1 δ0 r ∧ (kp [(2, 4), (3, 1)] δ r ∧ q_V r = q_V δ)) := by
  intro n
  induction n with
  | zero =>
    intro δ I j0 hm
    have f1 := ti_b x1
    have f2 := cb_2_4 I k_a0
    exfalso; omega
  | succ n ih =>
    intro δ I j0 hm
    unfold L_X2_goBack_0
    have f1 := ti_b x1
    have f2 := cb_2_4 I k_a0
    refine ok_ite (fun h3 => ?_) (fun h3 => ?_)
    · have c4 : (q_I δ 2 4 a0).toInt ≤ x1.toInt := o_le h3
      exact ok_some (show CI ad h.1 δ0 δ ∧ (kp [(2, 4), (3, 1)] δ δ ∧ q_V δ = q_V δ) from ⟨I, ⟨kp_w (by decide) kp_r, rfl⟩⟩)
    · have c5 : x1.toInt < (q_I δ 2 4 a0).toInt := o_nle h3
      first | (have q10 := te_subc (c := 1) (n := 1) rfl (q_I δ 2 4 a0) (by omega) (by omega); obtain ⟨f11, f12, f13⟩ := q10) | (obtain ⟨q10, f11, f12, f13⟩ := ti_subc (c := 1) (n := 1) rfl (q_I δ 2 4 a0))
      refine ok_bdv (fun d6 e7 => ?_)
      have i8 : CI ad h.1 δ0 d6 := by rw [e7]; exact cs_2_4 L I k_a0 (show 0 ≤ ((q_I δ 2 4 a0) - (1 : Int32)).toInt by omega) (show ((q_I δ 2 4 a0) - (1 : Int32)).toInt ≤ 1000 by omega)
      have u14 := kp_I kp_r e7
      have v15 : q_V d6 = q_V δ := ((show q_V d6 = q_V δ by rw [e7]; rfl)).trans rfl
      obtain ⟨b16, o17, k18⟩ := gO_2_0 L k_a0
      refine ok_at o17 ?_
      have f21 := cb_2_4 i8 k_a0
      have f22 : (q_I d6 2 4 a0).toInt = ((q_I δ 2 4 a0) - (1 : Int32)).toInt := congrArg Int32.toInt (show q_I d6 2 4 a0 = ((q_I δ 2 4 a0) - (1 : Int32)) by rw [e7]; exact rI_s)
      refine ok_bind (k_X2_replay L hN (a0 := a0) (a1 := b16) (x2 := (q_I d6 2 4 a0)) (x3 := (1 : Int32)) k_a0 k18 (show 0 ≤ ((q_I d6 2 4 a0)).toInt by first | with_reducible assumption | omega) (show ((q_I d6 2 4 a0)).toInt < 1000 by first | with_reducible assumption | omega) i8) (fun r19 hr20 => ?_)
      obtain ⟨i23, ⟨u24, u25⟩⟩ := hr20
      have u26 := kp_t u14 u24
      have v27 : q_V r19 = q_V δ := (u25).trans v15
      have f28 : (q_I r19 2 4 a0).toInt = (q_I d6 2 4 a0).toInt := congrArg Int32.toInt (u24 2 4 a0 (by decide))
      refine ok_mono (ih r19 i23 (show 0 ≤ (x1).toInt by first | with_reducible assumption | omega) (show (q_I r19 2 4 a0).toInt < _ by omega)) (fun r29 hr30 => ?_)
      obtain ⟨i31, ⟨u32, u33⟩⟩ := hr30
      have u34 := kp_t u26 u32
      have v35 : q_V r29 = q_V δ := (u33).trans v27
      exact ⟨by first | with_reducible assumption | assumption, ⟨kp_w (by decide) u34, v35⟩⟩
set_option maxHeartbeats 4000000 in
theorem k_X2_goBack {ad : List Nat} {h : hp} (L : Lay TLx ad h) {δ0 : dp} {N : Nat} (hN : 10000000 ≤ N) {a0 : Nat} {x1 : Int32} (k_a0 : q_K h.1 a0 = 2) {δ : dp} (z0 : 0 ≤ (x1).toInt) (I : CI ad h.1 δ0 δ) : ok (D_X2_goBack N h.1 a0 x1 δ) (fun r => CI ad h.1 δ0 r ∧ (kp [(2, 4), (3, 1)] δ r ∧ q_V r = q_V δ)) := by
  unfold D_X2_goBack
  have f1 := ti_b x1
  have f2 := cb_2_4 I k_a0
  refine ok_mono (kl_X2_goBack_0 L hN   k_a0 _ δ I (show 0 ≤ (x1).toInt by first | with_reducible assumption | omega) (show (q_I δ 2 4 a0).toInt < _ by omega)) (fun r3 hr4 => ?_)
  obtain ⟨i5, ⟨u6, u7⟩⟩ := hr4
  have u8 := kp_t kp_r u6
  have v9 : q_V r3 = q_V δ := (u7).trans rfl
  exact ⟨by first | with_reducible assumption | assumption, ⟨kp_w (by decide) u8, v9⟩⟩
set_option maxHeartbeats 4000000 in
theorem kl_X2_fillPast_6 {ad : List Nat} {h : hp} (L : Lay TLx ad h) {δ0 : dp} {N : Nat} (hN : 10000000 ≤ N) {a0 : Nat} {a1 : Nat} {x2 : Int32} (k_a0 : q_K h.1 a0 = 2) (k_a1 : q_K h.1 a1 = 3) : ∀ (n : Nat) (x3v : Int32) (δ : dp), CI ad h.1 δ0 δ → 0 ≤ (x3v).toInt → (x3v).toInt ≤ (x2).toInt → (x2).toInt ≤ 1000 → (x2).toInt - (x3v).toInt < (n : Int) → ok (L_X2_fillPast_6 N h.1 a0 a1 x2 n x3v δ) (fun r => CI ad h.1 δ0 r ∧ (kp [(3, 1)] δ r ∧ q_V r = q_V δ)) := by
  intro n
  induction n with
  | zero =>
    intro x3v δ I j0 j1 j2 hm
    have f1 := ti_b x3v
    have f2 := ti_b x2
    exfalso; omega
  | succ n ih =>
    intro x3v δ I j0 j1 j2 hm
    unfold L_X2_fillPast_6
    have f1 := ti_b x3v
    have f2 := ti_b x2
    refine ok_ite (fun h3 => ?_) (fun h3 => ?_)
    · have c4 : x2.toInt ≤ x3v.toInt := o_le h3
      exact ok_some (show CI ad h.1 δ0 δ ∧ (kp [(3, 1)] δ δ ∧ q_V δ = q_V δ) from ⟨I, ⟨kp_w (by decide) kp_r, rfl⟩⟩)
    · have c5 : x3v.toInt < x2.toInt := o_nle h3
      refine ok_bind (k_X2_replay L hN (a0 := a0) (a1 := a1) (x2 := x3v) (x3 := (0 : Int32)) k_a0 k_a1 (show 0 ≤ (x3v).toInt by first | with_reducible assumption | omega) (show (x3v).toInt < 1000 by first | with_reducible assumption | omega) I) (fun r6 hr7 => ?_)
      obtain ⟨i8, ⟨u9, u10⟩⟩ := hr7
      have u11 := kp_t kp_r u9
      have v12 : q_V r6 = q_V δ := (u10).trans rfl
      refine ok_biv (fun vx13 e14 => ?_)
      first | (have q15 := te_addc (c := 1) (n := 1) rfl x3v (by omega) (by omega); rw [← e14] at q15; obtain ⟨f16, f17, f18⟩ := q15) | (obtain ⟨q15, f16, f17, f18⟩ : ∃ q : Int, vx13.toInt = x3v.toInt + (1 : Int) + 4294967296 * q ∧ -2147483648 ≤ vx13.toInt ∧ vx13.toInt ≤ 2147483647 := by rw [e14]; exact ti_addc (c := 1) (n := 1) rfl x3v)
      refine ok_mono (ih vx13 r6 i8 (show 0 ≤ (vx13).toInt by first | with_reducible assumption | omega) (show (vx13).toInt ≤ (x2).toInt by first | with_reducible assumption | omega) (show (x2).toInt ≤ 1000 by first | with_reducible assumption | omega) (show (x2).toInt - (vx13).toInt < _ by omega)) (fun r19 hr20 => ?_)
      obtain ⟨i21, ⟨u22, u23⟩⟩ := hr20
      have u24 := kp_t u11 u22
      have v25 : q_V r19 = q_V δ := (u23).trans v12
      exact ⟨by first | with_reducible assumption | assumption, ⟨kp_w (by decide) u24, v25⟩⟩
set_option maxHeartbeats 4000000 in
theorem k_X2_fillPast {ad : List Nat} {h : hp} (L : Lay TLx ad h) {δ0 : dp} {N : Nat} (hN : 10000000 ≤ N) {a0 : Nat} {a1 : Nat} {x2 : Int32} (k_a0 : q_K h.1 a0 = 2) (k_a1 : q_K h.1 a1 = 3) {δ : dp} (z0 : 0 ≤ (x2).toInt) (z1 : (x2).toInt ≤ 1000) (I : CI ad h.1 δ0 δ) : ok (D_X2_fillPast N h.1 a0 a1 x2 δ) (fun r => CI ad h.1 δ0 r ∧ (kp [(3, 1)] δ r ∧ q_V r = q_V δ)) := by
  unfold D_X2_fillPast
  have f1 := ti_b x2
  refine ok_bind (k_X3_clear L hN (a0 := a1) k_a1 I) (fun r2 hr3 => ?_)
  obtain ⟨i4, ⟨u6, u7, u8⟩, p5⟩ := hr3
  have u9 := kp_t kp_r u6
  have v10 : q_V r2 = q_V δ := (u7).trans rfl
  obtain ⟨b11, o12, k13, ⟨n14, n15⟩, w16⟩ := gO_3_0 L k_a1
  have f17 := cb_3_1 i4 k_a1 o12
  refine ok_mono (kl_X2_fillPast_6 L hN   k_a0 k_a1 _ (0 : Int32) r2 i4 (show 0 ≤ (0 : Int) by first | with_reducible assumption | omega) (show (0 : Int) ≤ (x2).toInt by first | with_reducible assumption | omega) (show (x2).toInt ≤ 1000 by first | with_reducible assumption | omega) (show (x2).toInt - (0 : Int) < _ by omega)) (fun r18 hr19 => ?_)
  obtain ⟨i20, ⟨u21, u22⟩⟩ := hr19
  have u23 := kp_t u9 u21
  have v24 : q_V r18 = q_V δ := (u22).trans v10
  exact ⟨by first | with_reducible assumption | assumption, ⟨kp_w (by decide) u23, v24⟩⟩
set_option maxHeartbeats 4000000 in
theorem kl_X2_makeAll_5 {ad : List Nat} {h : hp} (L : Lay TLx ad h) {δ0 : dp} {N : Nat} (hN : 10000000 ≤ N) {a0 : Nat} {x1 : Int32} {a2 : Nat} (k_a0 : q_K h.1 a0 = 2) (k_a2 : q_K h.1 a2 = 3) : ∀ (n : Nat) (x3v : Int32) (x4v : Int32) (δ : dp), CI ad h.1 δ0 δ → 0 ≤ (x4v).toInt → (x4v).toInt ≤ 2000 → 2000 - (x4v).toInt < (n : Int) → ok (L_X2_makeAll_5 N h.1 a0 x1 a2 n x3v x4v δ) (fun r => CI ad h.1 δ0 r.2 ∧ (kp [(1, 3), (1, 4), (1, 5), (1, 6), (1, 7), (1, 8), (1, 9), (1, 10), (1, 11), (1, 12), (1, 13), (1, 14), (1, 15), (2, 4), (3, 1)] δ r.2 ∧ q_V r.2 = q_V δ)) := by
  intro n
  induction n with
  | zero =>
    intro x3v x4v δ I j0 j1 hm
    have f1 := ti_b x4v
    exfalso; omega
  | succ n ih =>
    intro x3v x4v δ I j0 j1 hm
    unfold L_X2_makeAll_5
    have f1 := ti_b x4v
    obtain ⟨b2, o3, k4, ⟨n5, n6⟩, w7⟩ := gO_3_0 L k_a2
    have f8 := cb_3_1 I k_a2 o3
    refine ok_ite (fun h9 => ?_) (fun h9 => ?_)
    · have c10 : (q_I δ 3 1 a2).toInt ≤ x4v.toInt := o_le h9
      exact ok_some (show CI ad h.1 δ0 δ ∧ (kp [(1, 3), (1, 4), (1, 5), (1, 6), (1, 7), (1, 8), (1, 9), (1, 10), (1, 11), (1, 12), (1, 13), (1, 14), (1, 15), (2, 4), (3, 1)] δ δ ∧ q_V δ = q_V δ) from ⟨I, ⟨kp_w (by decide) kp_r, rfl⟩⟩)
    · have c11 : x4v.toInt < (q_I δ 3 1 a2).toInt := o_nle h9
      refine ok_bind (k_X3_at L hN (a0 := a2) (x1 := x4v) k_a2 I) (fun r12 hr13 => ?_)
      have i14 := hr13
      try rw [i14]
      have f15 := ti_b r12.1
      refine ok_bind (k_X2_make L hN (a0 := a0) (x1 := x1) (x2 := r12.1) k_a0 I) (fun r16 hr17 => ?_)
      obtain ⟨i18, ⟨u19, u20⟩⟩ := hr17
      have u21 := kp_t kp_r u19
      have v22 : q_V r16.2 = q_V δ := (u20).trans rfl
      have f23 := ti_b r16.1
      have f26 := ti_b x3v
      refine ok_biv (fun vx24 e25 => ?_)
      first | (have q27 := te_add x3v r16.1 (by omega) (by omega); rw [← e25] at q27; obtain ⟨f28, f29, f30⟩ := q27) | (obtain ⟨q27, f28, f29, f30⟩ : ∃ q : Int, vx24.toInt = x3v.toInt + r16.1.toInt + 4294967296 * q ∧ -2147483648 ≤ vx24.toInt ∧ vx24.toInt ≤ 2147483647 := by rw [e25]; exact ti_add x3v r16.1)
      refine ok_biv (fun vx31 e32 => ?_)
      first | (have q33 := te_addc (c := 1) (n := 1) rfl x4v (by omega) (by omega); rw [← e32] at q33; obtain ⟨f34, f35, f36⟩ := q33) | (obtain ⟨q33, f34, f35, f36⟩ : ∃ q : Int, vx31.toInt = x4v.toInt + (1 : Int) + 4294967296 * q ∧ -2147483648 ≤ vx31.toInt ∧ vx31.toInt ≤ 2147483647 := by rw [e32]; exact ti_addc (c := 1) (n := 1) rfl x4v)
      refine ok_mono (ih vx24 vx31 r16.2 i18 (show 0 ≤ (vx31).toInt by first | with_reducible assumption | omega) (show (vx31).toInt ≤ 2000 by first | with_reducible assumption | omega) (show 2000 - (vx31).toInt < _ by omega)) (fun r37 hr38 => ?_)
      obtain ⟨i39, ⟨u40, u41⟩⟩ := hr38
      have u42 := kp_t u21 u40
      have v43 : q_V r37.2 = q_V δ := (u41).trans v22
      have f44 := ti_b r37.1
      exact ⟨by first | with_reducible assumption | assumption, ⟨kp_w (by decide) u42, v43⟩⟩
set_option maxHeartbeats 4000000 in
theorem k_X2_makeAll {ad : List Nat} {h : hp} (L : Lay TLx ad h) {δ0 : dp} {N : Nat} (hN : 10000000 ≤ N) {a0 : Nat} {x1 : Int32} {a2 : Nat} (k_a0 : q_K h.1 a0 = 2) (k_a2 : q_K h.1 a2 = 3) {δ : dp} (I : CI ad h.1 δ0 δ) : ok (D_X2_makeAll N h.1 a0 x1 a2 δ) (fun r => CI ad h.1 δ0 r.2 ∧ (kp [(1, 3), (1, 4), (1, 5), (1, 6), (1, 7), (1, 8), (1, 9), (1, 10), (1, 11), (1, 12), (1, 13), (1, 14), (1, 15), (2, 4), (3, 1)] δ r.2 ∧ q_V r.2 = q_V δ)) := by
  unfold D_X2_makeAll
  refine ok_mono (kl_X2_makeAll_5 L hN   k_a0 k_a2 _ (0 : Int32) (0 : Int32) δ I (show 0 ≤ (0 : Int) by first | with_reducible assumption | omega) (show (0 : Int) ≤ 2000 by first | with_reducible assumption | omega) (show 2000 - (0 : Int) < _ by omega)) (fun r1 hr2 => ?_)
  obtain ⟨i3, ⟨u4, u5⟩⟩ := hr2
  have u6 := kp_t kp_r u4
  have v7 : q_V r1.2 = q_V δ := (u5).trans rfl
  have f8 := ti_b r1.1
  exact ⟨by first | with_reducible assumption | assumption, ⟨kp_w (by decide) u6, v7⟩⟩
set_option maxHeartbeats 4000000 in
theorem kl_X2_dropAllBut_16 {ad : List Nat} {h : hp} (L : Lay TLx ad h) {δ0 : dp} {N : Nat} (hN : 10000000 ≤ N) {a0 : Nat} {a1 : Nat} (k_a0 : q_K h.1 a0 = 2) (k_a1 : q_K h.1 a1 = 3) : ∀ (n : Nat) (x2v : Int32) (x3v : Int32) (x4v : Int32) (x5v : Int32) (δ : dp), CI ad h.1 δ0 δ → 0 ≤ (x5v).toInt → (x5v).toInt ≤ (x4v).toInt → (x4v).toInt ≤ 2000 → (x4v).toInt - (x5v).toInt < (n : Int) → ok (L_X2_dropAllBut_16 N h.1 a0 a1 n x2v x3v x4v x5v δ) (fun r => CI ad h.1 δ0 r.2 ∧ (kp [(1, 3), (1, 4), (1, 5), (1, 6), (1, 7), (1, 8), (1, 9), (1, 10), (1, 11), (1, 12), (1, 13), (1, 14), (1, 15), (2, 4), (3, 1)] δ r.2 ∧ q_V r.2 = q_V δ)) := by
  intro n
  induction n with
  | zero =>
    intro x2v x3v x4v x5v δ I j0 j1 j2 hm
    have f1 := ti_b x5v
    have f2 := ti_b x4v
    exfalso; omega
  | succ n ih =>
    intro x2v x3v x4v x5v δ I j0 j1 j2 hm
    unfold L_X2_dropAllBut_16
    have f1 := ti_b x5v
    have f2 := ti_b x4v
    refine ok_ite (fun h3 => ?_) (fun h3 => ?_)
    · have c4 : x4v.toInt ≤ x5v.toInt := o_le h3
      exact ok_some (show CI ad h.1 δ0 δ ∧ (kp [(1, 3), (1, 4), (1, 5), (1, 6), (1, 7), (1, 8), (1, 9), (1, 10), (1, 11), (1, 12), (1, 13), (1, 14), (1, 15), (2, 4), (3, 1)] δ δ ∧ q_V δ = q_V δ) from ⟨I, ⟨kp_w (by decide) kp_r, rfl⟩⟩)
    · have c5 : x5v.toInt < x4v.toInt := o_nle h3
      obtain ⟨b6, o7, k8⟩ := gO_2_0 L k_a0
      refine ok_at o7 ?_
      refine ok_bind (k_X3_at L hN (a0 := b6) (x1 := x3v) k8 I) (fun r9 hr10 => ?_)
      have i11 := hr10
      try rw [i11]
      have f12 := ti_b r9.1
      refine ok_bind (k_X3_holds L hN (a0 := a1) (x1 := r9.1) k_a1 I) (fun r13 hr14 => ?_)
      obtain ⟨i15, p16⟩ := hr14
      try rw [i15]
      have f17 := bo_t p16
      have f18 := ti_b r13.1
      refine ok_ite (fun h19 => ?_) (fun h19 => ?_)
      · have c20 : r13.1.toInt = (0 : Int) := o_eq h19
        refine ok_bind (k_X2_make L hN (a0 := a0) (x1 := (1 : Int32)) (x2 := r9.1) k_a0 I) (fun r21 hr22 => ?_)
        obtain ⟨i23, ⟨u24, u25⟩⟩ := hr22
        have u26 := kp_t kp_r u24
        have v27 : q_V r21.2 = q_V δ := (u25).trans rfl
        have f28 := ti_b r21.1
        have f31 := ti_b x2v
        refine ok_biv (fun vx29 e30 => ?_)
        first | (have q32 := te_add x2v r21.1 (by omega) (by omega); rw [← e30] at q32; obtain ⟨f33, f34, f35⟩ := q32) | (obtain ⟨q32, f33, f34, f35⟩ : ∃ q : Int, vx29.toInt = x2v.toInt + r21.1.toInt + 4294967296 * q ∧ -2147483648 ≤ vx29.toInt ∧ vx29.toInt ≤ 2147483647 := by rw [e30]; exact ti_add x2v r21.1)
        unfold J_X2_dropAllBut_58
        refine ok_biv (fun vx36 e37 => ?_)
        first | (have q38 := te_addc (c := 1) (n := 1) rfl x5v (by omega) (by omega); rw [← e37] at q38; obtain ⟨f39, f40, f41⟩ := q38) | (obtain ⟨q38, f39, f40, f41⟩ : ∃ q : Int, vx36.toInt = x5v.toInt + (1 : Int) + 4294967296 * q ∧ -2147483648 ≤ vx36.toInt ∧ vx36.toInt ≤ 2147483647 := by rw [e37]; exact ti_addc (c := 1) (n := 1) rfl x5v)
        refine ok_mono (ih vx29 x3v x4v vx36 r21.2 i23 (show 0 ≤ (vx36).toInt by first | with_reducible assumption | omega) (show (vx36).toInt ≤ (x4v).toInt by first | with_reducible assumption | omega) (show (x4v).toInt ≤ 2000 by first | with_reducible assumption | omega) (show (x4v).toInt - (vx36).toInt < _ by omega)) (fun r42 hr43 => ?_)
        obtain ⟨i44, ⟨u45, u46⟩⟩ := hr43
        have u47 := kp_t u26 u45
        have v48 : q_V r42.2 = q_V δ := (u46).trans v27
        have f49 := ti_b r42.1
        exact ⟨by first | with_reducible assumption | assumption, ⟨kp_w (by decide) u47, v48⟩⟩
      · have c50 : r13.1.toInt ≠ (0 : Int) := o_ne h19
        have f53 := ti_b x3v
        refine ok_biv (fun vx51 e52 => ?_)
        first | (have q54 := te_addc (c := 1) (n := 1) rfl x3v (by omega) (by omega); rw [← e52] at q54; obtain ⟨f55, f56, f57⟩ := q54) | (obtain ⟨q54, f55, f56, f57⟩ : ∃ q : Int, vx51.toInt = x3v.toInt + (1 : Int) + 4294967296 * q ∧ -2147483648 ≤ vx51.toInt ∧ vx51.toInt ≤ 2147483647 := by rw [e52]; exact ti_addc (c := 1) (n := 1) rfl x3v)
        unfold J_X2_dropAllBut_58
        refine ok_biv (fun vx58 e59 => ?_)
        first | (have q60 := te_addc (c := 1) (n := 1) rfl x5v (by omega) (by omega); rw [← e59] at q60; obtain ⟨f61, f62, f63⟩ := q60) | (obtain ⟨q60, f61, f62, f63⟩ : ∃ q : Int, vx58.toInt = x5v.toInt + (1 : Int) + 4294967296 * q ∧ -2147483648 ≤ vx58.toInt ∧ vx58.toInt ≤ 2147483647 := by rw [e59]; exact ti_addc (c := 1) (n := 1) rfl x5v)
        refine ok_mono (ih x2v vx51 x4v vx58 δ I (show 0 ≤ (vx58).toInt by first | with_reducible assumption | omega) (show (vx58).toInt ≤ (x4v).toInt by first | with_reducible assumption | omega) (show (x4v).toInt ≤ 2000 by first | with_reducible assumption | omega) (show (x4v).toInt - (vx58).toInt < _ by omega)) (fun r64 hr65 => ?_)
        obtain ⟨i66, ⟨u67, u68⟩⟩ := hr65
        have u69 := kp_t kp_r u67
        have v70 : q_V r64.2 = q_V δ := (u68).trans rfl
        have f71 := ti_b r64.1
        exact ⟨by first | with_reducible assumption | assumption, ⟨kp_w (by decide) u69, v70⟩⟩
set_option maxHeartbeats 4000000 in
theorem k_X2_dropAllBut {ad : List Nat} {h : hp} (L : Lay TLx ad h) {δ0 : dp} {N : Nat} (hN : 10000000 ≤ N) {a0 : Nat} {a1 : Nat} (k_a0 : q_K h.1 a0 = 2) (k_a1 : q_K h.1 a1 = 3) {δ : dp} (I : CI ad h.1 δ0 δ) : ok (D_X2_dropAllBut N h.1 a0 a1 δ) (fun r => CI ad h.1 δ0 r.2 ∧ (kp [(1, 3), (1, 4), (1, 5), (1, 6), (1, 7), (1, 8), (1, 9), (1, 10), (1, 11), (1, 12), (1, 13), (1, 14), (1, 15), (2, 4), (3, 1)] δ r.2 ∧ q_V r.2 = q_V δ)) := by
  unfold D_X2_dropAllBut
  obtain ⟨b1, o2, k3⟩ := gO_2_0 L k_a0
  refine ok_at o2 ?_
  obtain ⟨b6, o7, k8, ⟨n9, n10⟩, w11⟩ := gO_3_0 L k3
  have f12 := cb_3_1 I k3 o7
  refine ok_biv (fun vx4 e5 => ?_)
  have f13 : vx4.toInt = (q_I δ 3 1 b1).toInt := congrArg Int32.toInt e5
  refine ok_mono (kl_X2_dropAllBut_16 L hN   k_a0 k_a1 _ (0 : Int32) (0 : Int32) vx4 (0 : Int32) δ I (show 0 ≤ (0 : Int) by first | with_reducible assumption | omega) (show (0 : Int) ≤ (vx4).toInt by first | with_reducible assumption | omega) (show (vx4).toInt ≤ 2000 by first | with_reducible assumption | omega) (show (vx4).toInt - (0 : Int) < _ by omega)) (fun r14 hr15 => ?_)
  obtain ⟨i16, ⟨u17, u18⟩⟩ := hr15
  have u19 := kp_t kp_r u17
  have v20 : q_V r14.2 = q_V δ := (u18).trans rfl
  have f21 := ti_b r14.1
  exact ⟨by first | with_reducible assumption | assumption, ⟨kp_w (by decide) u19, v20⟩⟩
end
