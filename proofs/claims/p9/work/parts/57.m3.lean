/-! THIEVES' rows; loops' starts; the set of BestRow -/
theorem th_v {ad : List Nat} {h : hp} (L : Lay TLx ad h) {δ0 δ : dp} (I : CI ad h.1 δ0 δ) {a v : Nat} (ka : q_K h.1 a = 8) (hv : q_O h.1 8 1 a = some v) (i : Nat) : 0 ≤ (q_R δ v i).toInt ∧ (q_R δ v i).toInt ≤ 2147483647 := by
  obtain ⟨s, hs, _⟩ := gO_8_0 L ka
  obtain ⟨j, hj, rfl, rfl, rfl⟩ := th_cell L ka hs hv
  have := I.2.1 (Ad ad (62 + 3 * j)) i
  rw [th_dv L hj] at this
  exact this
theorem th_tv {ad : List Nat} {h : hp} (L : Lay TLx ad h) {δ0 δ : dp} (I : CI ad h.1 δ0 δ) {a s v : Nat} (ka : q_K h.1 a = 8) (hs : q_O h.1 8 0 a = some s) (hv : q_O h.1 8 1 a = some v) {i : Nat} (hi : (i : Int) < (q_I δ 8 2 a).toInt) : 0 ≤ (q_R δ v i).toInt ∧ ((q_R δ s i).toInt = 1 → (q_R δ v i).toInt < 4) ∧ ((q_R δ s i).toInt = 11 → (q_R δ v i).toInt < 500) := by
  obtain ⟨j, hj, rfl, rfl, rfl⟩ := th_cell L ka hs hv
  have := I.2.2.1 j hj i hi
  exact ⟨this.1, fun e => this.2.1 (i_eq e), fun e => this.2.2 (i_eq e)⟩
theorem th_n7 {ad : List Nat} {h : hp} (L : Lay TLx ad h) {a s : Nat} (ka : q_K h.1 a = 8) (hs : q_O h.1 8 0 a = some s) : Ad ad 7 ≠ s := by
  obtain ⟨v, hv, _⟩ := gO_8_1 L ka
  obtain ⟨j, hj, rfl, rfl, rfl⟩ := th_cell L ka hs hv
  intro e
  rw [Ad_eq L _ _ (by omega) (by omega)] at e
  omega
theorem th_n7v {ad : List Nat} {h : hp} (L : Lay TLx ad h) {a v : Nat} (ka : q_K h.1 a = 8) (hv : q_O h.1 8 1 a = some v) : Ad ad 7 ≠ v := by
  obtain ⟨s, hs, _⟩ := gO_8_0 L ka
  obtain ⟨j, hj, rfl, rfl, rfl⟩ := th_cell L ka hs hv
  intro e
  rw [Ad_eq L _ _ (by omega) (by omega)] at e
  omega
/-- the starts of the open loops: ascending, none behind the THIEF's end -/
def LSn (ad : List Nat) (δ : dp) (th : Nat) (m : Int) : Prop := (∀ i : Nat, (i : Int) < m → (q_R δ (Ad ad 7) i).toInt ≤ (q_I δ 8 2 th).toInt) ∧ ∀ i j : Nat, i ≤ j → (j : Int) < m → (q_R δ (Ad ad 7) i).toInt ≤ (q_R δ (Ad ad 7) j).toInt
theorem LSn.t {ad : List Nat} {δ δ1 : dp} {th : Nat} {m : Int} (H : LSn ad δ th m) (l : (q_I δ 8 2 th).toInt ≤ (q_I δ1 8 2 th).toInt) (r : q_R δ1 (Ad ad 7) = q_R δ (Ad ad 7)) : LSn ad δ1 th m := by
  refine ⟨fun i hi => ?_, fun i j hij hj => ?_⟩
  · rw [r]; have := H.1 i hi; omega
  · rw [r]; exact H.2 i j hij hj
theorem LSn.n {ad : List Nat} {δ : dp} {th : Nat} {m m1 : Int} (H : LSn ad δ th m) (l : m1 ≤ m) : LSn ad δ th m1 := ⟨fun i hi => H.1 i (by omega), fun i j hij hj => H.2 i j hij (by omega)⟩
theorem LSn.w {ad : List Nat} {δ : dp} {th : Nat} {m : Int} (H : LSn ad δ th m) {i : Nat} {v : Int32} (hi : (i : Int) = m) (hv : v.toInt = (q_I δ 8 2 th).toInt) : LSn ad (s_R δ (Ad ad 7) i v) th (m + 1) := by
  have e : ∀ k, q_R (s_R δ (Ad ad 7) i v) (Ad ad 7) k = if k = i then v else q_R δ (Ad ad 7) k := by
    intro k
    rw [qR_sR]
    by_cases z : k = i
    · rw [if_pos ⟨rfl, z⟩, if_pos z]
    · rw [if_neg (fun y => z y.2), if_neg z]
  refine ⟨fun k hk => ?_, fun k j hkj hj => ?_⟩
  · rw [e]
    show _ ≤ (q_I δ 8 2 th).toInt
    by_cases z : k = i
    · rw [if_pos z]; omega
    · rw [if_neg z]; exact H.1 k (by omega)
  · rw [e, e]
    by_cases z : j = i
    · rw [if_pos z]
      by_cases y : k = i
      · rw [if_pos y]; exact Int.le_refl _
      · rw [if_neg y, hv]; exact H.1 k (by omega)
    · rw [if_neg z, if_neg (by omega)]; exact H.2 k j hkj (by omega)
theorem LSn.c {ad : List Nat} {δ : dp} {th : Nat} {m : Int} (H : LSn ad δ th m) {i : Nat} (hi : (i : Int) = m - 1) : LSn ad (s_I δ 8 2 th (q_R δ (Ad ad 7) i)) th (m - 1) := by
  refine ⟨fun k hk => ?_, fun k j hkj hj => ?_⟩
  · show (q_R δ (Ad ad 7) k).toInt ≤ _
    rw [rI_s]; exact H.2 k i (by omega) (by omega)
  · show (q_R δ (Ad ad 7) k).toInt ≤ (q_R δ (Ad ad 7) j).toInt
    exact H.2 k j hkj (by omega)
/-- BestRow's set is as it was -/
def sam (ad : List Nat) (δ δ1 : dp) : Prop := q_I δ1 3 1 (Ad ad 43) = q_I δ 3 1 (Ad ad 43) ∧ ∀ i : Nat, (i : Int) < (q_I δ 3 1 (Ad ad 43)).toInt → q_R δ1 (Ad ad 44) i = q_R δ (Ad ad 44) i
theorem sam_r {ad : List Nat} {δ : dp} : sam ad δ δ := ⟨rfl, fun _ _ => rfl⟩
theorem sam_t {ad : List Nat} {δ δ1 δ2 : dp} (h : sam ad δ δ1) (k : sam ad δ1 δ2) : sam ad δ δ2 := ⟨k.1.trans h.1, fun i hi => (k.2 i (by rw [h.1]; exact hi)).trans (h.2 i hi)⟩
theorem sam_c {ad : List Nat} {δ δ1 : dp} (h : q_I δ1 3 1 (Ad ad 43) = q_I δ 3 1 (Ad ad 43)) (k : q_R δ1 = q_R δ) : sam ad δ δ1 := ⟨h, fun i _ => by rw [k]⟩
theorem sam_w {ad : List Nat} {δ : dp} {b i : Nat} {v : Int32} (h : b ≠ Ad ad 44) : sam ad δ (s_R δ b i v) := ⟨rfl, fun j _ => by rw [rR_o (fun e => h e.symm)]⟩
/-- a row of its own bounds -/
def wr (ad : List Nat) (b : Nat) (lo hi : Int) : Prop := ∃ i : Nat, i ∈ [46, 47, 48, 49, 50, 51, 52, 56, 57, 58] ∧ b = Ad ad i ∧ b_R ad b = (lo, hi)
theorem wr.lt {ad : List Nat} {b : Nat} {lo hi : Int} (w : wr ad b lo hi) : ∃ i : Nat, 46 ≤ i ∧ i ≤ 58 ∧ b = Ad ad i := by
  obtain ⟨i, hi, e, _⟩ := w
  have H : ∀ k ∈ [46, 47, 48, 49, 50, 51, 52, 56, 57, 58], 46 ≤ k ∧ k ≤ 58 := by decide
  exact ⟨i, (H i hi).1, (H i hi).2, e⟩
theorem wr.ne {ad : List Nat} {h : hp} (L : Lay TLx ad h) {b j : Nat} {lo hi : Int} (w : wr ad b lo hi) (hj : j < 128) (hn : j < 46 ∨ 58 < j) : b ≠ Ad ad j := by
  obtain ⟨i, h1, h2, rfl⟩ := w.lt
  intro e
  rw [Ad_eq L _ _ (by omega) (by omega)] at e
  omega
theorem CI.wR {ad : List Nat} {g : gp} {δ0 δ : dp} (I : CI ad g δ0 δ) {b : Nat} {lo hi : Int} (w : wr ad b lo hi) (i : Nat) : lo ≤ (q_R δ b i).toInt ∧ (q_R δ b i).toInt ≤ hi := by
  obtain ⟨_, _, _, e⟩ := w
  have := I.2.1 b i
  rw [e] at this
  exact this
theorem CI.sW {ad : List Nat} {h : hp} (L : Lay TLx ad h) {δ0 δ : dp} (I : CI ad h.1 δ0 δ) {b i : Nat} {lo hi : Int} {v : Int32} (w : wr ad b lo hi) (h1 : lo ≤ v.toInt) (h2 : v.toInt ≤ hi) : CI ad h.1 δ0 (s_R δ b i v) := by
  have e := w
  obtain ⟨_, _, _, e⟩ := e
  refine ⟨fun c' k' a' hk => I.1 c' k' a' hk, fun b' j => ?_, fun j hj q hq => ?_, fun k' a' => I.2.2.2.1 k' a', fun q q1 q2 => ?_⟩
  · rw [qR_sR]
    by_cases z : b' = b ∧ j = i
    · rw [if_pos z, z.1, e]; exact ⟨h1, h2⟩
    · rw [if_neg z]; exact I.2.1 b' j
  · rw [rR_o (fun z => w.ne L (j := 61 + 3 * j) (by omega) (by omega) z.symm), rR_o (fun z => w.ne L (j := 62 + 3 * j) (by omega) (by omega) z.symm)]
    exact I.2.2.1 j hj q hq
  · rw [rR_o (fun z => w.ne L (by omega) (by omega) z.symm)]
    exact I.2.2.2.2 q q1 q2

theorem gW_0_3 {ad : List Nat} {h : hp} (L : Lay TLx ad h) {a b : Nat} (ka : q_K h.1 a = 0) (hb : q_O h.1 0 3 a = some b) {i : Nat} (hi : i < 7) : ∃ d, q_E h.1 b i = some d ∧ q_K h.1 d = 13 ∧ q_N h.1 d = 7 ∧ wr ad d 0 (65 * (i : Int)) := by
  obtain ⟨q, hq, rfl⟩ := lay_cel L (by rw [ka]; decide)
  rw [lay_knd L hq] at ka
  have H : ∀ i : Fin 128, knd i.val = 0 → i.val = 42 := by decide +kernel
  obtain rfl : q = 42 := H ⟨q, hq⟩ ka
  rw [fO_42_3 L] at hb
  obtain rfl := Option.some.inj hb
  rcases (show i = 0 ∨ i = 1 ∨ i = 2 ∨ i = 3 ∨ i = 4 ∨ i = 5 ∨ i = 6 by omega) with rfl | rfl | rfl | rfl | rfl | rfl | rfl
  · exact ⟨_, fE_45_0 L, (lay_knd L (by decide)).trans (by decide), fN_46 L, 46, by decide, rfl, br_46 L⟩
  · exact ⟨_, fE_45_1 L, (lay_knd L (by decide)).trans (by decide), fN_47 L, 47, by decide, rfl, br_47 L⟩
  · exact ⟨_, fE_45_2 L, (lay_knd L (by decide)).trans (by decide), fN_48 L, 48, by decide, rfl, br_48 L⟩
  · exact ⟨_, fE_45_3 L, (lay_knd L (by decide)).trans (by decide), fN_49 L, 49, by decide, rfl, br_49 L⟩
  · exact ⟨_, fE_45_4 L, (lay_knd L (by decide)).trans (by decide), fN_50 L, 50, by decide, rfl, br_50 L⟩
  · exact ⟨_, fE_45_5 L, (lay_knd L (by decide)).trans (by decide), fN_51 L, 51, by decide, rfl, br_51 L⟩
  · exact ⟨_, fE_45_6 L, (lay_knd L (by decide)).trans (by decide), fN_52 L, 52, by decide, rfl, br_52 L⟩
theorem gW_11_11 {ad : List Nat} {h : hp} (L : Lay TLx ad h) {a b : Nat} (ka : q_K h.1 a = 11) (hb : q_O h.1 11 11 a = some b) {i : Nat} (hi : i < 3) : ∃ d, q_E h.1 b i = some d ∧ q_K h.1 d = 13 ∧ q_N h.1 d = 4 ∧ wr ad d 0 (1000) := by
  obtain ⟨q, hq, rfl⟩ := lay_cel L (by rw [ka]; decide)
  rw [lay_knd L hq] at ka
  have H : ∀ i : Fin 128, knd i.val = 11 → i.val = 0 := by decide +kernel
  obtain rfl : q = 0 := H ⟨q, hq⟩ ka
  rw [fO_0_11 L] at hb
  obtain rfl := Option.some.inj hb
  rcases (show i = 0 ∨ i = 1 ∨ i = 2 by omega) with rfl | rfl | rfl
  · exact ⟨_, fE_55_0 L, (lay_knd L (by decide)).trans (by decide), fN_56 L, 56, by decide, rfl, br_56 L⟩
  · exact ⟨_, fE_55_1 L, (lay_knd L (by decide)).trans (by decide), fN_57 L, 57, by decide, rfl, br_57 L⟩
  · exact ⟨_, fE_55_2 L, (lay_knd L (by decide)).trans (by decide), fN_58 L, 58, by decide, rfl, br_58 L⟩
