/-! rows of references, special rows (by gen_safe.py) -/
theorem gE_10_4 {ad : List Nat} {h : hp} (L : Lay TLx ad h) {a b : Nat} (ka : q_K h.1 a = 10) (hb : q_O h.1 10 4 a = some b) {i : Nat} (hi : i < 5) : ∃ d, q_E h.1 b i = some d ∧ q_K h.1 d = 13 ∧ q_N h.1 d = 17 ∧ wb ad d := by
  obtain ⟨q, hq, rfl⟩ := lay_cel L (by rw [ka]; decide)
  rw [lay_knd L hq] at ka
  have H : ∀ i : Fin 128, knd i.val = 10 → i.val = 19 := by decide +kernel
  obtain rfl : q = 19 := H ⟨q, hq⟩ ka
  rw [fO_19_4 L] at hb
  obtain rfl := Option.some.inj hb
  rcases (show i = 0 ∨ i = 1 ∨ i = 2 ∨ i = 3 ∨ i = 4 by omega) with rfl | rfl | rfl | rfl | rfl
  · exact ⟨_, fE_23_0 L, (lay_knd L (by decide)).trans (by decide), fN_24 L, ⟨24, by decide, by decide, rfl⟩⟩
  · exact ⟨_, fE_23_1 L, (lay_knd L (by decide)).trans (by decide), fN_25 L, ⟨25, by decide, by decide, rfl⟩⟩
  · exact ⟨_, fE_23_2 L, (lay_knd L (by decide)).trans (by decide), fN_26 L, ⟨26, by decide, by decide, rfl⟩⟩
  · exact ⟨_, fE_23_3 L, (lay_knd L (by decide)).trans (by decide), fN_27 L, ⟨27, by decide, by decide, rfl⟩⟩
  · exact ⟨_, fE_23_4 L, (lay_knd L (by decide)).trans (by decide), fN_28 L, ⟨28, by decide, by decide, rfl⟩⟩
theorem gE_10_5 {ad : List Nat} {h : hp} (L : Lay TLx ad h) {a b : Nat} (ka : q_K h.1 a = 10) (hb : q_O h.1 10 5 a = some b) {i : Nat} (hi : i < 5) : ∃ d, q_E h.1 b i = some d ∧ q_K h.1 d = 13 ∧ q_N h.1 d = 17 ∧ wb ad d := by
  obtain ⟨q, hq, rfl⟩ := lay_cel L (by rw [ka]; decide)
  rw [lay_knd L hq] at ka
  have H : ∀ i : Fin 128, knd i.val = 10 → i.val = 19 := by decide +kernel
  obtain rfl : q = 19 := H ⟨q, hq⟩ ka
  rw [fO_19_5 L] at hb
  obtain rfl := Option.some.inj hb
  rcases (show i = 0 ∨ i = 1 ∨ i = 2 ∨ i = 3 ∨ i = 4 by omega) with rfl | rfl | rfl | rfl | rfl
  · exact ⟨_, fE_29_0 L, (lay_knd L (by decide)).trans (by decide), fN_30 L, ⟨30, by decide, by decide, rfl⟩⟩
  · exact ⟨_, fE_29_1 L, (lay_knd L (by decide)).trans (by decide), fN_31 L, ⟨31, by decide, by decide, rfl⟩⟩
  · exact ⟨_, fE_29_2 L, (lay_knd L (by decide)).trans (by decide), fN_32 L, ⟨32, by decide, by decide, rfl⟩⟩
  · exact ⟨_, fE_29_3 L, (lay_knd L (by decide)).trans (by decide), fN_33 L, ⟨33, by decide, by decide, rfl⟩⟩
  · exact ⟨_, fE_29_4 L, (lay_knd L (by decide)).trans (by decide), fN_34 L, ⟨34, by decide, by decide, rfl⟩⟩
theorem gE_10_6 {ad : List Nat} {h : hp} (L : Lay TLx ad h) {a b : Nat} (ka : q_K h.1 a = 10) (hb : q_O h.1 10 6 a = some b) {i : Nat} (hi : i < 5) : ∃ d, q_E h.1 b i = some d ∧ q_K h.1 d = 14 ∧ q_N h.1 d = 17 ∧ wb ad d := by
  obtain ⟨q, hq, rfl⟩ := lay_cel L (by rw [ka]; decide)
  rw [lay_knd L hq] at ka
  have H : ∀ i : Fin 128, knd i.val = 10 → i.val = 19 := by decide +kernel
  obtain rfl : q = 19 := H ⟨q, hq⟩ ka
  rw [fO_19_6 L] at hb
  obtain rfl := Option.some.inj hb
  rcases (show i = 0 ∨ i = 1 ∨ i = 2 ∨ i = 3 ∨ i = 4 by omega) with rfl | rfl | rfl | rfl | rfl
  · exact ⟨_, fE_35_0 L, (lay_knd L (by decide)).trans (by decide), fN_36 L, ⟨36, by decide, by decide, rfl⟩⟩
  · exact ⟨_, fE_35_1 L, (lay_knd L (by decide)).trans (by decide), fN_37 L, ⟨37, by decide, by decide, rfl⟩⟩
  · exact ⟨_, fE_35_2 L, (lay_knd L (by decide)).trans (by decide), fN_38 L, ⟨38, by decide, by decide, rfl⟩⟩
  · exact ⟨_, fE_35_3 L, (lay_knd L (by decide)).trans (by decide), fN_39 L, ⟨39, by decide, by decide, rfl⟩⟩
  · exact ⟨_, fE_35_4 L, (lay_knd L (by decide)).trans (by decide), fN_40 L, ⟨40, by decide, by decide, rfl⟩⟩
theorem gE_11_6 {ad : List Nat} {h : hp} (L : Lay TLx ad h) {a b : Nat} (ka : q_K h.1 a = 11) (hb : q_O h.1 11 6 a = some b) {i : Nat} (hi : i < 4) : ∃ d, q_E h.1 b i = some d ∧ q_K h.1 d = 2 := by
  obtain ⟨q, hq, rfl⟩ := lay_cel L (by rw [ka]; decide)
  rw [lay_knd L hq] at ka
  have H : ∀ i : Fin 128, knd i.val = 11 → i.val = 0 := by decide +kernel
  obtain rfl : q = 0 := H ⟨q, hq⟩ ka
  rw [fO_0_6 L] at hb
  obtain rfl := Option.some.inj hb
  rcases (show i = 0 ∨ i = 1 ∨ i = 2 ∨ i = 3 by omega) with rfl | rfl | rfl | rfl
  · exact ⟨_, fE_10_0 L, (lay_knd L (by decide)).trans (by decide)⟩
  · exact ⟨_, fE_10_1 L, (lay_knd L (by decide)).trans (by decide)⟩
  · exact ⟨_, fE_10_2 L, (lay_knd L (by decide)).trans (by decide)⟩
  · exact ⟨_, fE_10_3 L, (lay_knd L (by decide)).trans (by decide)⟩
theorem gE_11_4 {ad : List Nat} {h : hp} (L : Lay TLx ad h) {a b : Nat} (ka : q_K h.1 a = 11) (hb : q_O h.1 11 4 a = some b) {i : Nat} (hi : i < 5) : ∃ d, q_E h.1 b i = some d ∧ q_K h.1 d = 8 := by
  obtain ⟨q, hq, rfl⟩ := lay_cel L (by rw [ka]; decide)
  rw [lay_knd L hq] at ka
  have H : ∀ i : Fin 128, knd i.val = 11 → i.val = 0 := by decide +kernel
  obtain rfl : q = 0 := H ⟨q, hq⟩ ka
  rw [fO_0_4 L] at hb
  obtain rfl := Option.some.inj hb
  rcases (show i = 0 ∨ i = 1 ∨ i = 2 ∨ i = 3 ∨ i = 4 by omega) with rfl | rfl | rfl | rfl | rfl
  · exact ⟨_, fE_9_0 L, (lay_knd L (by decide)).trans (by decide)⟩
  · exact ⟨_, fE_9_1 L, (lay_knd L (by decide)).trans (by decide)⟩
  · exact ⟨_, fE_9_2 L, (lay_knd L (by decide)).trans (by decide)⟩
  · exact ⟨_, fE_9_3 L, (lay_knd L (by decide)).trans (by decide)⟩
  · exact ⟨_, fE_9_4 L, (lay_knd L (by decide)).trans (by decide)⟩
theorem gE_11_11 {ad : List Nat} {h : hp} (L : Lay TLx ad h) {a b : Nat} (ka : q_K h.1 a = 11) (hb : q_O h.1 11 11 a = some b) {i : Nat} (hi : i < 3) : ∃ d, q_E h.1 b i = some d ∧ q_K h.1 d = 13 ∧ q_N h.1 d = 4 ∧ (d = Ad ad 56 ∨ d = Ad ad 57 ∨ d = Ad ad 58) := by
  obtain ⟨q, hq, rfl⟩ := lay_cel L (by rw [ka]; decide)
  rw [lay_knd L hq] at ka
  have H : ∀ i : Fin 128, knd i.val = 11 → i.val = 0 := by decide +kernel
  obtain rfl : q = 0 := H ⟨q, hq⟩ ka
  rw [fO_0_11 L] at hb
  obtain rfl := Option.some.inj hb
  rcases (show i = 0 ∨ i = 1 ∨ i = 2 by omega) with rfl | rfl | rfl
  · exact ⟨_, fE_55_0 L, (lay_knd L (by decide)).trans (by decide), fN_56 L, Or.inl rfl⟩
  · exact ⟨_, fE_55_1 L, (lay_knd L (by decide)).trans (by decide), fN_57 L, Or.inr (Or.inl rfl)⟩
  · exact ⟨_, fE_55_2 L, (lay_knd L (by decide)).trans (by decide), fN_58 L, Or.inr (Or.inr (rfl))⟩
theorem gE_0_3 {ad : List Nat} {h : hp} (L : Lay TLx ad h) {a b : Nat} (ka : q_K h.1 a = 0) (hb : q_O h.1 0 3 a = some b) {i : Nat} (hi : i < 7) : ∃ d, q_E h.1 b i = some d ∧ q_K h.1 d = 13 ∧ q_N h.1 d = 7 ∧ wb ad d := by
  obtain ⟨q, hq, rfl⟩ := lay_cel L (by rw [ka]; decide)
  rw [lay_knd L hq] at ka
  have H : ∀ i : Fin 128, knd i.val = 0 → i.val = 42 := by decide +kernel
  obtain rfl : q = 42 := H ⟨q, hq⟩ ka
  rw [fO_42_3 L] at hb
  obtain rfl := Option.some.inj hb
  rcases (show i = 0 ∨ i = 1 ∨ i = 2 ∨ i = 3 ∨ i = 4 ∨ i = 5 ∨ i = 6 by omega) with rfl | rfl | rfl | rfl | rfl | rfl | rfl
  · exact ⟨_, fE_45_0 L, (lay_knd L (by decide)).trans (by decide), fN_46 L, ⟨46, by decide, by decide, rfl⟩⟩
  · exact ⟨_, fE_45_1 L, (lay_knd L (by decide)).trans (by decide), fN_47 L, ⟨47, by decide, by decide, rfl⟩⟩
  · exact ⟨_, fE_45_2 L, (lay_knd L (by decide)).trans (by decide), fN_48 L, ⟨48, by decide, by decide, rfl⟩⟩
  · exact ⟨_, fE_45_3 L, (lay_knd L (by decide)).trans (by decide), fN_49 L, ⟨49, by decide, by decide, rfl⟩⟩
  · exact ⟨_, fE_45_4 L, (lay_knd L (by decide)).trans (by decide), fN_50 L, ⟨50, by decide, by decide, rfl⟩⟩
  · exact ⟨_, fE_45_5 L, (lay_knd L (by decide)).trans (by decide), fN_51 L, ⟨51, by decide, by decide, rfl⟩⟩
  · exact ⟨_, fE_45_6 L, (lay_knd L (by decide)).trans (by decide), fN_52 L, ⟨52, by decide, by decide, rfl⟩⟩
theorem gS_10_3 {ad : List Nat} {h : hp} (L : Lay TLx ad h) {a b : Nat} (ka : q_K h.1 a = 10) (hb : q_O h.1 10 3 a = some b) : b = Ad ad 22 := by
  obtain ⟨q, hq, rfl⟩ := lay_cel L (by rw [ka]; decide)
  rw [lay_knd L hq] at ka
  have H : ∀ i : Fin 128, knd i.val = 10 → i.val = 19 := by decide +kernel
  obtain rfl : q = 19 := H ⟨q, hq⟩ ka
  rw [fO_19_3 L] at hb
  exact (Option.some.inj hb).symm
theorem gS_9_5 {ad : List Nat} {h : hp} (L : Lay TLx ad h) {a b : Nat} (ka : q_K h.1 a = 9) (hb : q_O h.1 9 5 a = some b) : b = Ad ad 7 := by
  obtain ⟨q, hq, rfl⟩ := lay_cel L (by rw [ka]; decide)
  rw [lay_knd L hq] at ka
  have H : ∀ i : Fin 128, knd i.val = 9 → i.val = 6 := by decide +kernel
  obtain rfl : q = 6 := H ⟨q, hq⟩ ka
  rw [fO_6_5 L] at hb
  exact (Option.some.inj hb).symm
theorem br_22 {ad : List Nat} {h : hp} (L : Lay TLx ad h) : b_R ad (Ad ad 22) = (0, 17) := by
  simp [b_R, Ad_eq L]
theorem rb_22 {ad : List Nat} {h : hp} (L : Lay TLx ad h) {δ0 δ : dp} (I : CI ad h.1 δ0 δ) (i : Nat) : 0 ≤ (q_R δ (Ad ad 22) i).toInt ∧ (q_R δ (Ad ad 22) i).toInt ≤ 17 := by
  have := I.2.1 (Ad ad 22) i
  rw [br_22 L] at this
  exact this
theorem cr_22 {ad : List Nat} {h : hp} (L : Lay TLx ad h) {δ0 δ : dp} (I : CI ad h.1 δ0 δ) {i : Nat} {v : Int32} (h1 : 0 ≤ v.toInt) (h2 : v.toInt ≤ 17) : CI ad h.1 δ0 (s_R δ (Ad ad 22) i v) := by
  refine ⟨fun c' k' a' hk => I.1 c' k' a' hk, fun b' j => ?_, fun j hj q hq => ?_, fun k' a' => I.2.2.2.1 k' a', fun q q1 q2 => ?_⟩
  · rw [qR_sR]
    by_cases e : b' = Ad ad 22 ∧ j = i
    · rw [if_pos e, e.1, br_22 L]; exact ⟨h1, h2⟩
    · rw [if_neg e]; exact I.2.1 b' j
  · rw [rR_o (fun e => by rw [Ad_eq L _ _ (by omega) (by omega)] at e; omega), rR_o (fun e => by rw [Ad_eq L _ _ (by omega) (by omega)] at e; omega)]
    exact I.2.2.1 j hj q hq
  · rw [rR_o (fun e => by rw [Ad_eq L _ _ (by omega) (by omega)] at e; omega)]
    exact I.2.2.2.2 q q1 q2
theorem br_56 {ad : List Nat} {h : hp} (L : Lay TLx ad h) : b_R ad (Ad ad 56) = (0, 1000) := by
  simp [b_R, Ad_eq L]
theorem rb_56 {ad : List Nat} {h : hp} (L : Lay TLx ad h) {δ0 δ : dp} (I : CI ad h.1 δ0 δ) (i : Nat) : 0 ≤ (q_R δ (Ad ad 56) i).toInt ∧ (q_R δ (Ad ad 56) i).toInt ≤ 1000 := by
  have := I.2.1 (Ad ad 56) i
  rw [br_56 L] at this
  exact this
theorem cr_56 {ad : List Nat} {h : hp} (L : Lay TLx ad h) {δ0 δ : dp} (I : CI ad h.1 δ0 δ) {i : Nat} {v : Int32} (h1 : 0 ≤ v.toInt) (h2 : v.toInt ≤ 1000) : CI ad h.1 δ0 (s_R δ (Ad ad 56) i v) := by
  refine ⟨fun c' k' a' hk => I.1 c' k' a' hk, fun b' j => ?_, fun j hj q hq => ?_, fun k' a' => I.2.2.2.1 k' a', fun q q1 q2 => ?_⟩
  · rw [qR_sR]
    by_cases e : b' = Ad ad 56 ∧ j = i
    · rw [if_pos e, e.1, br_56 L]; exact ⟨h1, h2⟩
    · rw [if_neg e]; exact I.2.1 b' j
  · rw [rR_o (fun e => by rw [Ad_eq L _ _ (by omega) (by omega)] at e; omega), rR_o (fun e => by rw [Ad_eq L _ _ (by omega) (by omega)] at e; omega)]
    exact I.2.2.1 j hj q hq
  · rw [rR_o (fun e => by rw [Ad_eq L _ _ (by omega) (by omega)] at e; omega)]
    exact I.2.2.2.2 q q1 q2
theorem br_57 {ad : List Nat} {h : hp} (L : Lay TLx ad h) : b_R ad (Ad ad 57) = (0, 1000) := by
  simp [b_R, Ad_eq L]
theorem rb_57 {ad : List Nat} {h : hp} (L : Lay TLx ad h) {δ0 δ : dp} (I : CI ad h.1 δ0 δ) (i : Nat) : 0 ≤ (q_R δ (Ad ad 57) i).toInt ∧ (q_R δ (Ad ad 57) i).toInt ≤ 1000 := by
  have := I.2.1 (Ad ad 57) i
  rw [br_57 L] at this
  exact this
theorem cr_57 {ad : List Nat} {h : hp} (L : Lay TLx ad h) {δ0 δ : dp} (I : CI ad h.1 δ0 δ) {i : Nat} {v : Int32} (h1 : 0 ≤ v.toInt) (h2 : v.toInt ≤ 1000) : CI ad h.1 δ0 (s_R δ (Ad ad 57) i v) := by
  refine ⟨fun c' k' a' hk => I.1 c' k' a' hk, fun b' j => ?_, fun j hj q hq => ?_, fun k' a' => I.2.2.2.1 k' a', fun q q1 q2 => ?_⟩
  · rw [qR_sR]
    by_cases e : b' = Ad ad 57 ∧ j = i
    · rw [if_pos e, e.1, br_57 L]; exact ⟨h1, h2⟩
    · rw [if_neg e]; exact I.2.1 b' j
  · rw [rR_o (fun e => by rw [Ad_eq L _ _ (by omega) (by omega)] at e; omega), rR_o (fun e => by rw [Ad_eq L _ _ (by omega) (by omega)] at e; omega)]
    exact I.2.2.1 j hj q hq
  · rw [rR_o (fun e => by rw [Ad_eq L _ _ (by omega) (by omega)] at e; omega)]
    exact I.2.2.2.2 q q1 q2
theorem br_58 {ad : List Nat} {h : hp} (L : Lay TLx ad h) : b_R ad (Ad ad 58) = (0, 1000) := by
  simp [b_R, Ad_eq L]
theorem rb_58 {ad : List Nat} {h : hp} (L : Lay TLx ad h) {δ0 δ : dp} (I : CI ad h.1 δ0 δ) (i : Nat) : 0 ≤ (q_R δ (Ad ad 58) i).toInt ∧ (q_R δ (Ad ad 58) i).toInt ≤ 1000 := by
  have := I.2.1 (Ad ad 58) i
  rw [br_58 L] at this
  exact this
theorem cr_58 {ad : List Nat} {h : hp} (L : Lay TLx ad h) {δ0 δ : dp} (I : CI ad h.1 δ0 δ) {i : Nat} {v : Int32} (h1 : 0 ≤ v.toInt) (h2 : v.toInt ≤ 1000) : CI ad h.1 δ0 (s_R δ (Ad ad 58) i v) := by
  refine ⟨fun c' k' a' hk => I.1 c' k' a' hk, fun b' j => ?_, fun j hj q hq => ?_, fun k' a' => I.2.2.2.1 k' a', fun q q1 q2 => ?_⟩
  · rw [qR_sR]
    by_cases e : b' = Ad ad 58 ∧ j = i
    · rw [if_pos e, e.1, br_58 L]; exact ⟨h1, h2⟩
    · rw [if_neg e]; exact I.2.1 b' j
  · rw [rR_o (fun e => by rw [Ad_eq L _ _ (by omega) (by omega)] at e; omega), rR_o (fun e => by rw [Ad_eq L _ _ (by omega) (by omega)] at e; omega)]
    exact I.2.2.1 j hj q hq
  · rw [rR_o (fun e => by rw [Ad_eq L _ _ (by omega) (by omega)] at e; omega)]
    exact I.2.2.2.2 q q1 q2
theorem br_7 {ad : List Nat} {h : hp} (L : Lay TLx ad h) : b_R ad (Ad ad 7) = (0, 500) := by
  simp [b_R, Ad_eq L]
theorem rb_7 {ad : List Nat} {h : hp} (L : Lay TLx ad h) {δ0 δ : dp} (I : CI ad h.1 δ0 δ) (i : Nat) : 0 ≤ (q_R δ (Ad ad 7) i).toInt ∧ (q_R δ (Ad ad 7) i).toInt ≤ 500 := by
  have := I.2.1 (Ad ad 7) i
  rw [br_7 L] at this
  exact this
theorem cr_7 {ad : List Nat} {h : hp} (L : Lay TLx ad h) {δ0 δ : dp} (I : CI ad h.1 δ0 δ) {i : Nat} {v : Int32} (h1 : 0 ≤ v.toInt) (h2 : v.toInt ≤ 500) : CI ad h.1 δ0 (s_R δ (Ad ad 7) i v) := by
  refine ⟨fun c' k' a' hk => I.1 c' k' a' hk, fun b' j => ?_, fun j hj q hq => ?_, fun k' a' => I.2.2.2.1 k' a', fun q q1 q2 => ?_⟩
  · rw [qR_sR]
    by_cases e : b' = Ad ad 7 ∧ j = i
    · rw [if_pos e, e.1, br_7 L]; exact ⟨h1, h2⟩
    · rw [if_neg e]; exact I.2.1 b' j
  · rw [rR_o (fun e => by rw [Ad_eq L _ _ (by omega) (by omega)] at e; omega), rR_o (fun e => by rw [Ad_eq L _ _ (by omega) (by omega)] at e; omega)]
    exact I.2.2.1 j hj q hq
  · rw [rR_o (fun e => by rw [Ad_eq L _ _ (by omega) (by omega)] at e; omega)]
    exact I.2.2.2.2 q q1 q2
