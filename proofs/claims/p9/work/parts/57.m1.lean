/-! rows of references, special rows (by gen_safe.py) -/
theorem gE_10_4 {ad : List Nat} {h : hp} (L : Lay TLx ad h) {a b : Nat} (ka : q_K h.1 a = 10) (hb : q_O h.1 10 4 a = some b) {i : Nat} (hi : i < 5) : ∃ d, q_E h.1 b i = some d ∧ q_K h.1 d = 13 ∧ q_N h.1 d = 17 ∧ wb ad d := by
  obtain ⟨q, hq, rfl⟩ := lay_cel L (by rw [ka]; decide)
  rw [lay_knd L hq] at ka
  have H : ∀ i : Fin 128, knd i.val = 10 → i.val = 19 := by decide +kernel
  obtain rfl : q = 19 := H ⟨q, hq⟩ ka
  rw [fO_19_4 L] at hb
  obtain rfl := Option.some.inj hb
  rcases (show i = 0 ∨ i = 1 ∨ i = 2 ∨ i = 3 ∨ i = 4 by omega) with rfl | rfl | rfl | rfl | rfl
  · exact ⟨_, fE_23_0 L, (lay_knd L (by decide)).trans (by decide), fN_24 L, ⟨24, by decide, by decide, rfl⟩⟩
  · exact ⟨_, fE_23_1 L, (lay_knd L (by decide)).trans (by decide), fN_25 L, ⟨25, by decide, by decide, rfl⟩⟩
  · exact ⟨_, fE_23_2 L, (lay_knd L (by decide)).trans (by decide), fN_26 L, ⟨26, by decide, by decide, rfl⟩⟩
  · exact ⟨_, fE_23_3 L, (lay_knd L (by decide)).trans (by decide), fN_27 L, ⟨27, by decide, by decide, rfl⟩⟩
  · exact ⟨_, fE_23_4 L, (lay_knd L (by decide)).trans (by decide), fN_28 L, ⟨28, by decide, by decide, rfl⟩⟩
theorem gE_10_5 {ad : List Nat} {h : hp} (L : Lay TLx ad h) {a b : Nat} (ka : q_K h.1 a = 10) (hb : q_O h.1 10 5 a = some b) {i : Nat} (hi : i < 5) : ∃ d, q_E h.1 b i = some d ∧ q_K h.1 d = 13 ∧ q_N h.1 d = 17 ∧ wb ad d := by
  obtain ⟨q, hq, rfl⟩ := lay_cel L (by rw [ka]; decide)
  rw [lay_knd L hq] at ka
  have H : ∀ i : Fin 128, knd i.val = 10 → i.val = 19 := by decide +kernel
  obtain rfl : q = 19 := H ⟨q, hq⟩ ka
  rw [fO_19_5 L] at hb
  obtain rfl := Option.some.inj hb
  rcases (show i = 0 ∨ i = 1 ∨ i = 2 ∨ i = 3 ∨ i = 4 by omega) with rfl | rfl | rfl | rfl | rfl
  · exact ⟨_, fE_29_0 L, (lay_knd L (by decide)).trans (by decide), fN_30 L, ⟨30, by decide, by decide, rfl⟩⟩
  · exact ⟨_, fE_29_1 L, (lay_knd L (by decide)).trans (by decide), fN_31 L, ⟨31, by decide, by decide, rfl⟩⟩
  · exact ⟨_, fE_29_2 L, (lay_knd L (by decide)).trans (by decide), fN_32 L, ⟨32, by decide, by decide, rfl⟩⟩
  · exact ⟨_, fE_29_3 L, (lay_knd L (by decide)).trans (by decide), fN_33 L, ⟨33, by decide, by decide, rfl⟩⟩
  · exact ⟨_, fE_29_4 L, (lay_knd L (by decide)).trans (by decide), fN_34 L, ⟨34, by decide, by decide, rfl⟩⟩
theorem gE_10_6 {ad : List Nat} {h : hp} (L : Lay TLx ad h) {a b : Nat} (ka : q_K h.1 a = 10) (hb : q_O h.1 10 6 a = some b) {i : Nat} (hi : i < 5) : ∃ d, q_E h.1 b i = some d ∧ q_K h.1 d = 14 ∧ q_N h.1 d = 17 ∧ wb ad d := by
  obtain ⟨q, hq, rfl⟩ := lay_cel L (by rw [ka]; decide)
  rw [lay_knd L hq] at ka
  have H : ∀ i : Fin 128, knd i.val = 10 → i.val = 19 := by decide +kernel
  obtain rfl : q = 19 := H ⟨q, hq⟩ ka
  rw [fO_19_6 L] at hb
  obtain rfl := Option.some.inj hb
  rcases (show i = 0 ∨ i = 1 ∨ i = 2 ∨ i = 3 ∨ i = 4 by omega) with rfl | rfl | rfl | rfl | rfl
  · exact ⟨_, fE_35_0 L, (lay_knd L (by decide)).trans (by decide), fN_36 L, ⟨36, by decide, by decide, rfl⟩⟩
  · exact ⟨_, fE_35_1 L, (lay_knd L (by decide)).trans (by decide), fN_37 L, ⟨37, by decide, by decide, rfl⟩⟩
  · exact ⟨_, fE_35_2 L, (lay_knd L (by decide)).trans (by decide), fN_38 L, ⟨38, by decide, by decide, rfl⟩⟩
  · exact ⟨_, fE_35_3 L, (lay_knd L (by decide)).trans (by decide), fN_39 L, ⟨39, by decide, by decide, rfl⟩⟩
  · exact ⟨_, fE_35_4 L, (lay_knd L (by decide)).trans (by decide), fN_40 L, ⟨40, by decide, by decide, rfl⟩⟩
theorem gE_11_6 {ad : List Nat} {h : hp} (L : Lay TLx ad h) {a b : Nat} (ka : q_K h.1 a = 11) (hb : q_O h.1 11 6 a = some b) {i : Nat} (hi : i < 4) : ∃ d, q_E h.1 b i = some d ∧ q_K h.1 d = 2 := by
  obtain ⟨q, hq, rfl⟩ := lay_cel L (by rw [ka]; decide)
  rw [lay_knd L hq] at ka
  have H : ∀ i : Fin 128, knd i.val = 11 → i.val = 0 := by decide +kernel
  obtain rfl : q = 0 := H ⟨q, hq⟩ ka
  rw [fO_0_6 L] at hb
  obtain rfl := Option.some.inj hb
  rcases (show i = 0 ∨ i = 1 ∨ i = 2 ∨ i = 3 by omega) with rfl | rfl | rfl | rfl
  · exact ⟨_, fE_10_0 L, (lay_knd L (by decide)).trans (by decide)⟩
  · exact ⟨_, fE_10_1 L, (lay_knd L (by decide)).trans (by decide)⟩
  · exact ⟨_, fE_10_2 L, (lay_knd L (by decide)).trans (by decide)⟩
  · exact ⟨_, fE_10_3 L, (lay_knd L (by decide)).trans (by decide)⟩
theorem gE_11_4 {ad : List Nat} {h : hp} (L : Lay TLx ad h) {a b : Nat} (ka : q_K h.1 a = 11) (hb : q_O h.1 11 4 a = some b) {i : Nat} (hi : i < 5) : ∃ d, q_E h.1 b i = some d ∧ q_K h.1 d = 8 := by
  obtain ⟨q, hq, rfl⟩ := lay_cel L (by rw [ka]; decide)
  rw [lay_knd L hq] at ka
  have H : ∀ i : Fin 128, knd i.val = 11 → i.val = 0 := by decide +kernel
  obtain rfl : q = 0 := H ⟨q, hq⟩ ka
  rw [fO_0_4 L] at hb
  obtain rfl := Option.some.inj hb
  rcases (show i = 0 ∨ i = 1 ∨ i = 2 ∨ i = 3 ∨ i = 4 by omega) with rfl | rfl | rfl | rfl | rfl
  · exact ⟨_, fE_9_0 L, (lay_knd L (by decide)).trans (by decide)⟩
  · exact ⟨_, fE_9_1 L, (lay_knd L (by decide)).trans (by decide)⟩
  · exact ⟨_, fE_9_2 L, (lay_knd L (by decide)).trans (by decide)⟩
  · exact ⟨_, fE_9_3 L, (lay_knd L (by decide)).trans (by decide)⟩
  · exact ⟨_, fE_9_4 L, (lay_knd L (by decide)).trans (by decide)⟩
theorem gS_10_3 {ad : List Nat} {h : hp} (L : Lay TLx ad h) {a b : Nat} (ka : q_K h.1 a = 10) (hb : q_O h.1 10 3 a = some b) : b = Ad ad 22 := by
  obtain ⟨q, hq, rfl⟩ := lay_cel L (by rw [ka]; decide)
  rw [lay_knd L hq] at ka
  have H : ∀ i : Fin 128, knd i.val = 10 → i.val = 19 := by decide +kernel
  obtain rfl : q = 19 := H ⟨q, hq⟩ ka
  rw [fO_19_3 L] at hb
  exact (Option.some.inj hb).symm
theorem gS_9_5 {ad : List Nat} {h : hp} (L : Lay TLx ad h) {a b : Nat} (ka : q_K h.1 a = 9) (hb : q_O h.1 9 5 a = some b) : b = Ad ad 7 := by
  obtain ⟨q, hq, rfl⟩ := lay_cel L (by rw [ka]; decide)
  rw [lay_knd L hq] at ka
  have H : ∀ i : Fin 128, knd i.val = 9 → i.val = 6 := by decide +kernel
  obtain rfl : q = 6 := H ⟨q, hq⟩ ka
  rw [fO_6_5 L] at hb
  exact (Option.some.inj hb).symm
theorem gS_0_1 {ad : List Nat} {h : hp} (L : Lay TLx ad h) {a b : Nat} (ka : q_K h.1 a = 0) (hb : q_O h.1 0 1 a = some b) : b = Ad ad 43 := by
  obtain ⟨q, hq, rfl⟩ := lay_cel L (by rw [ka]; decide)
  rw [lay_knd L hq] at ka
  have H : ∀ i : Fin 128, knd i.val = 0 → i.val = 42 := by decide +kernel
  obtain rfl : q = 42 := H ⟨q, hq⟩ ka
  rw [fO_42_1 L] at hb
  exact (Option.some.inj hb).symm
theorem gS_0_5 {ad : List Nat} {h : hp} (L : Lay TLx ad h) {a b : Nat} (ka : q_K h.1 a = 0) (hb : q_O h.1 0 5 a = some b) : b = Ad ad 53 := by
  obtain ⟨q, hq, rfl⟩ := lay_cel L (by rw [ka]; decide)
  rw [lay_knd L hq] at ka
  have H : ∀ i : Fin 128, knd i.val = 0 → i.val = 42 := by decide +kernel
  obtain rfl : q = 42 := H ⟨q, hq⟩ ka
  rw [fO_42_5 L] at hb
  exact (Option.some.inj hb).symm
theorem gS_11_0 {ad : List Nat} {h : hp} (L : Lay TLx ad h) {a b : Nat} (ka : q_K h.1 a = 11) (hb : q_O h.1 11 0 a = some b) : b = Ad ad 1 := by
  obtain ⟨q, hq, rfl⟩ := lay_cel L (by rw [ka]; decide)
  rw [lay_knd L hq] at ka
  have H : ∀ i : Fin 128, knd i.val = 11 → i.val = 0 := by decide +kernel
  obtain rfl : q = 0 := H ⟨q, hq⟩ ka
  rw [fO_0_0 L] at hb
  exact (Option.some.inj hb).symm
theorem br_22 {ad : List Nat} {h : hp} (L : Lay TLx ad h) : b_R ad (Ad ad 22) = (0, 17) := by
  simp [b_R, Ad_eq L]
theorem rb_22 {ad : List Nat} {h : hp} (L : Lay TLx ad h) {δ0 δ : dp} (I : CI ad h.1 δ0 δ) (i : Nat) : 0 ≤ (q_R δ (Ad ad 22) i).toInt ∧ (q_R δ (Ad ad 22) i).toInt ≤ 17 := by
  have := I.2.1 (Ad ad 22) i
  rw [br_22 L] at this
  exact this
theorem cr_22 {ad : List Nat} {h : hp} (L : Lay TLx ad h) {δ0 δ : dp} (I : CI ad h.1 δ0 δ) {i : Nat} {v : Int32} (h1 : 0 ≤ v.toInt) (h2 : v.toInt ≤ 17) : CI ad h.1 δ0 (s_R δ (Ad ad 22) i v) := by
  refine ⟨fun c' k' a' hk => I.1 c' k' a' hk, fun b' j => ?_, fun j hj q hq => ?_, fun k' a' => I.2.2.2.1 k' a', fun q q1 q2 => ?_⟩
  · rw [qR_sR]
    by_cases e : b' = Ad ad 22 ∧ j = i
    · rw [if_pos e, e.1, br_22 L]; exact ⟨h1, h2⟩
    · rw [if_neg e]; exact I.2.1 b' j
  · rw [rR_o (fun e => by rw [Ad_eq L _ _ (by omega) (by omega)] at e; omega), rR_o (fun e => by rw [Ad_eq L _ _ (by omega) (by omega)] at e; omega)]
    exact I.2.2.1 j hj q hq
  · rw [rR_o (fun e => by rw [Ad_eq L _ _ (by omega) (by omega)] at e; omega)]
    exact I.2.2.2.2 q q1 q2
theorem br_56 {ad : List Nat} {h : hp} (L : Lay TLx ad h) : b_R ad (Ad ad 56) = (0, 1000) := by
  simp [b_R, Ad_eq L]
theorem rb_56 {ad : List Nat} {h : hp} (L : Lay TLx ad h) {δ0 δ : dp} (I : CI ad h.1 δ0 δ) (i : Nat) : 0 ≤ (q_R δ (Ad ad 56) i).toInt ∧ (q_R δ (Ad ad 56) i).toInt ≤ 1000 := by
  have := I.2.1 (Ad ad 56) i
  rw [br_56 L] at this
  exact this
theorem br_57 {ad : List Nat} {h : hp} (L : Lay TLx ad h) : b_R ad (Ad ad 57) = (0, 1000) := by
  simp [b_R, Ad_eq L]
theorem rb_57 {ad : List Nat} {h : hp} (L : Lay TLx ad h) {δ0 δ : dp} (I : CI ad h.1 δ0 δ) (i : Nat) : 0 ≤ (q_R δ (Ad ad 57) i).toInt ∧ (q_R δ (Ad ad 57) i).toInt ≤ 1000 := by
  have := I.2.1 (Ad ad 57) i
  rw [br_57 L] at this
  exact this
theorem br_58 {ad : List Nat} {h : hp} (L : Lay TLx ad h) : b_R ad (Ad ad 58) = (0, 1000) := by
  simp [b_R, Ad_eq L]
theorem rb_58 {ad : List Nat} {h : hp} (L : Lay TLx ad h) {δ0 δ : dp} (I : CI ad h.1 δ0 δ) (i : Nat) : 0 ≤ (q_R δ (Ad ad 58) i).toInt ∧ (q_R δ (Ad ad 58) i).toInt ≤ 1000 := by
  have := I.2.1 (Ad ad 58) i
  rw [br_58 L] at this
  exact this
theorem br_7 {ad : List Nat} {h : hp} (L : Lay TLx ad h) : b_R ad (Ad ad 7) = (0, 500) := by
  simp [b_R, Ad_eq L]
theorem rb_7 {ad : List Nat} {h : hp} (L : Lay TLx ad h) {δ0 δ : dp} (I : CI ad h.1 δ0 δ) (i : Nat) : 0 ≤ (q_R δ (Ad ad 7) i).toInt ∧ (q_R δ (Ad ad 7) i).toInt ≤ 500 := by
  have := I.2.1 (Ad ad 7) i
  rw [br_7 L] at this
  exact this
theorem cr_7 {ad : List Nat} {h : hp} (L : Lay TLx ad h) {δ0 δ : dp} (I : CI ad h.1 δ0 δ) {i : Nat} {v : Int32} (h1 : 0 ≤ v.toInt) (h2 : v.toInt ≤ 500) : CI ad h.1 δ0 (s_R δ (Ad ad 7) i v) := by
  refine ⟨fun c' k' a' hk => I.1 c' k' a' hk, fun b' j => ?_, fun j hj q hq => ?_, fun k' a' => I.2.2.2.1 k' a', fun q q1 q2 => ?_⟩
  · rw [qR_sR]
    by_cases e : b' = Ad ad 7 ∧ j = i
    · rw [if_pos e, e.1, br_7 L]; exact ⟨h1, h2⟩
    · rw [if_neg e]; exact I.2.1 b' j
  · rw [rR_o (fun e => by rw [Ad_eq L _ _ (by omega) (by omega)] at e; omega), rR_o (fun e => by rw [Ad_eq L _ _ (by omega) (by omega)] at e; omega)]
    exact I.2.2.1 j hj q hq
  · rw [rR_o (fun e => by rw [Ad_eq L _ _ (by omega) (by omega)] at e; omega)]
    exact I.2.2.2.2 q q1 q2
theorem br_62 {ad : List Nat} {h : hp} (L : Lay TLx ad h) : b_R ad (Ad ad 62) = (0, 2147483647) := by
  simp [b_R, Ad_eq L]
theorem rb_62 {ad : List Nat} {h : hp} (L : Lay TLx ad h) {δ0 δ : dp} (I : CI ad h.1 δ0 δ) (i : Nat) : 0 ≤ (q_R δ (Ad ad 62) i).toInt ∧ (q_R δ (Ad ad 62) i).toInt ≤ 2147483647 := by
  have := I.2.1 (Ad ad 62) i
  rw [br_62 L] at this
  exact this
theorem br_65 {ad : List Nat} {h : hp} (L : Lay TLx ad h) : b_R ad (Ad ad 65) = (0, 2147483647) := by
  simp [b_R, Ad_eq L]
theorem rb_65 {ad : List Nat} {h : hp} (L : Lay TLx ad h) {δ0 δ : dp} (I : CI ad h.1 δ0 δ) (i : Nat) : 0 ≤ (q_R δ (Ad ad 65) i).toInt ∧ (q_R δ (Ad ad 65) i).toInt ≤ 2147483647 := by
  have := I.2.1 (Ad ad 65) i
  rw [br_65 L] at this
  exact this
theorem br_68 {ad : List Nat} {h : hp} (L : Lay TLx ad h) : b_R ad (Ad ad 68) = (0, 2147483647) := by
  simp [b_R, Ad_eq L]
theorem rb_68 {ad : List Nat} {h : hp} (L : Lay TLx ad h) {δ0 δ : dp} (I : CI ad h.1 δ0 δ) (i : Nat) : 0 ≤ (q_R δ (Ad ad 68) i).toInt ∧ (q_R δ (Ad ad 68) i).toInt ≤ 2147483647 := by
  have := I.2.1 (Ad ad 68) i
  rw [br_68 L] at this
  exact this
theorem br_71 {ad : List Nat} {h : hp} (L : Lay TLx ad h) : b_R ad (Ad ad 71) = (0, 2147483647) := by
  simp [b_R, Ad_eq L]
theorem rb_71 {ad : List Nat} {h : hp} (L : Lay TLx ad h) {δ0 δ : dp} (I : CI ad h.1 δ0 δ) (i : Nat) : 0 ≤ (q_R δ (Ad ad 71) i).toInt ∧ (q_R δ (Ad ad 71) i).toInt ≤ 2147483647 := by
  have := I.2.1 (Ad ad 71) i
  rw [br_71 L] at this
  exact this
theorem br_74 {ad : List Nat} {h : hp} (L : Lay TLx ad h) : b_R ad (Ad ad 74) = (0, 2147483647) := by
  simp [b_R, Ad_eq L]
theorem rb_74 {ad : List Nat} {h : hp} (L : Lay TLx ad h) {δ0 δ : dp} (I : CI ad h.1 δ0 δ) (i : Nat) : 0 ≤ (q_R δ (Ad ad 74) i).toInt ∧ (q_R δ (Ad ad 74) i).toInt ≤ 2147483647 := by
  have := I.2.1 (Ad ad 74) i
  rw [br_74 L] at this
  exact this
theorem br_46 {ad : List Nat} {h : hp} (L : Lay TLx ad h) : b_R ad (Ad ad 46) = (0, 0) := by
  simp [b_R, Ad_eq L]
theorem rb_46 {ad : List Nat} {h : hp} (L : Lay TLx ad h) {δ0 δ : dp} (I : CI ad h.1 δ0 δ) (i : Nat) : 0 ≤ (q_R δ (Ad ad 46) i).toInt ∧ (q_R δ (Ad ad 46) i).toInt ≤ 0 := by
  have := I.2.1 (Ad ad 46) i
  rw [br_46 L] at this
  exact this
theorem br_47 {ad : List Nat} {h : hp} (L : Lay TLx ad h) : b_R ad (Ad ad 47) = (0, 65) := by
  simp [b_R, Ad_eq L]
theorem rb_47 {ad : List Nat} {h : hp} (L : Lay TLx ad h) {δ0 δ : dp} (I : CI ad h.1 δ0 δ) (i : Nat) : 0 ≤ (q_R δ (Ad ad 47) i).toInt ∧ (q_R δ (Ad ad 47) i).toInt ≤ 65 := by
  have := I.2.1 (Ad ad 47) i
  rw [br_47 L] at this
  exact this
theorem br_48 {ad : List Nat} {h : hp} (L : Lay TLx ad h) : b_R ad (Ad ad 48) = (0, 130) := by
  simp [b_R, Ad_eq L]
theorem rb_48 {ad : List Nat} {h : hp} (L : Lay TLx ad h) {δ0 δ : dp} (I : CI ad h.1 δ0 δ) (i : Nat) : 0 ≤ (q_R δ (Ad ad 48) i).toInt ∧ (q_R δ (Ad ad 48) i).toInt ≤ 130 := by
  have := I.2.1 (Ad ad 48) i
  rw [br_48 L] at this
  exact this
theorem br_49 {ad : List Nat} {h : hp} (L : Lay TLx ad h) : b_R ad (Ad ad 49) = (0, 195) := by
  simp [b_R, Ad_eq L]
theorem rb_49 {ad : List Nat} {h : hp} (L : Lay TLx ad h) {δ0 δ : dp} (I : CI ad h.1 δ0 δ) (i : Nat) : 0 ≤ (q_R δ (Ad ad 49) i).toInt ∧ (q_R δ (Ad ad 49) i).toInt ≤ 195 := by
  have := I.2.1 (Ad ad 49) i
  rw [br_49 L] at this
  exact this
theorem br_50 {ad : List Nat} {h : hp} (L : Lay TLx ad h) : b_R ad (Ad ad 50) = (0, 260) := by
  simp [b_R, Ad_eq L]
theorem rb_50 {ad : List Nat} {h : hp} (L : Lay TLx ad h) {δ0 δ : dp} (I : CI ad h.1 δ0 δ) (i : Nat) : 0 ≤ (q_R δ (Ad ad 50) i).toInt ∧ (q_R δ (Ad ad 50) i).toInt ≤ 260 := by
  have := I.2.1 (Ad ad 50) i
  rw [br_50 L] at this
  exact this
theorem br_51 {ad : List Nat} {h : hp} (L : Lay TLx ad h) : b_R ad (Ad ad 51) = (0, 325) := by
  simp [b_R, Ad_eq L]
theorem rb_51 {ad : List Nat} {h : hp} (L : Lay TLx ad h) {δ0 δ : dp} (I : CI ad h.1 δ0 δ) (i : Nat) : 0 ≤ (q_R δ (Ad ad 51) i).toInt ∧ (q_R δ (Ad ad 51) i).toInt ≤ 325 := by
  have := I.2.1 (Ad ad 51) i
  rw [br_51 L] at this
  exact this
theorem br_52 {ad : List Nat} {h : hp} (L : Lay TLx ad h) : b_R ad (Ad ad 52) = (0, 390) := by
  simp [b_R, Ad_eq L]
theorem rb_52 {ad : List Nat} {h : hp} (L : Lay TLx ad h) {δ0 δ : dp} (I : CI ad h.1 δ0 δ) (i : Nat) : 0 ≤ (q_R δ (Ad ad 52) i).toInt ∧ (q_R δ (Ad ad 52) i).toInt ≤ 390 := by
  have := I.2.1 (Ad ad 52) i
  rw [br_52 L] at this
  exact this
