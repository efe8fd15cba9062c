/-! what the reference keeps (by gen_ri.py) -/
/-- a row of the reference that may hold anything -/
def wq (ad : List Nat) (b : Nat) : Prop := ∃ i : Nat, 100 ≤ i ∧ i < 127 ∧ i ∉ [103, 106, 108, 111, 112] ∧ b = Ad ad i
def b12 (k : Nat) : Int × Int := if k = 2 then (0, 500) else if k = 3 then (0, 500) else if k = 4 then (0, 500) else if k = 5 then (-1, 500) else if k = 6 then (0, 4) else if k = 10 then (2, 16) else if k = 11 then (1, 5) else if k = 12 then (0, 1) else if k = 18 then (0, 3) else if k = 24 then (0, 4) else if k = 25 then (0, 60) else if k = 26 then (0, 500) else if k = 27 then (0, 3) else if k = 36 then (0, 14000) else if k = 38 then (0, 16) else if k = 47 then (-1000, 2000) else (-2147483648, 2147483647)
def b_Q (ad : List Nat) (b : Nat) : Int × Int := if b = Ad ad 103 then (-1000, 2000) else if b = Ad ad 106 then (0, 1000) else if b = Ad ad 108 then (-1000, 2000) else if b = Ad ad 111 then (0, 1000) else if b = Ad ad 112 then (0, 60) else (-2147483648, 2147483647)
def RI (ad : List Nat) (g : gp) (δ0 δ : dp) : Prop := (∀ k a, q_K g a = 12 → (b12 k).1 ≤ (q_I δ 12 k a).toInt ∧ (q_I δ 12 k a).toInt ≤ (b12 k).2) ∧ (∀ b i, (b_Q ad b).1 ≤ (q_R δ b i).toInt ∧ (q_R δ b i).toInt ≤ (b_Q ad b).2) ∧ (∀ c k a, c < 12 → q_I δ c k a = q_I δ0 c k a) ∧ (∀ i, i < 99 → q_R δ (Ad ad i) = q_R δ0 (Ad ad i)) ∧ (q_V δ, q_J δ) = (q_V δ0, q_J δ0)
theorem RI.sI {ad : List Nat} {h : hp} (L : Lay TLx ad h) {δ0 δ : dp} (I : RI ad h.1 δ0 δ) {k a : Nat} {v : Int32} (h1 : (b12 k).1 ≤ v.toInt) (h2 : v.toInt ≤ (b12 k).2) : RI ad h.1 δ0 (s_I δ 12 k a v) := by
  refine ⟨fun k' a' hk => ?_, fun b i => I.2.1 b i, fun c k' a' hc => ?_, I.2.2.2.1, I.2.2.2.2⟩
  · rw [qI_sI]
    by_cases e : 12 = 12 ∧ k' = k ∧ a' = a
    · rw [if_pos e, e.2.1]; exact ⟨h1, h2⟩
    · rw [if_neg e]; exact I.1 k' a' hk
  · rw [rI_o (fun z => by omega)]; exact I.2.2.1 c k' a' hc
theorem wq.ne {ad : List Nat} {h : hp} (L : Lay TLx ad h) {b i : Nat} (w : wq ad b) (hi : i < 128) (hs : i < 100 ∨ i ∈ [103, 106, 108, 111, 112]) : Ad ad i ≠ b := by
  obtain ⟨j, h1, h2, h3, rfl⟩ := w
  intro e
  rw [Ad_eq L i j hi (by omega)] at e
  subst e
  rcases hs with hs | hs
  · omega
  · exact h3 hs
theorem wq.d {ad : List Nat} {h : hp} (L : Lay TLx ad h) {b : Nat} (w : wq ad b) : b_Q ad b = (-2147483648, 2147483647) := by
  unfold b_Q
  rw [if_neg (fun e => w.ne L (i := 103) (by decide) (by decide) e.symm)]
  rw [if_neg (fun e => w.ne L (i := 106) (by decide) (by decide) e.symm)]
  rw [if_neg (fun e => w.ne L (i := 108) (by decide) (by decide) e.symm)]
  rw [if_neg (fun e => w.ne L (i := 111) (by decide) (by decide) e.symm)]
  rw [if_neg (fun e => w.ne L (i := 112) (by decide) (by decide) e.symm)]
theorem RI.sR {ad : List Nat} {h : hp} (L : Lay TLx ad h) {δ0 δ : dp} (I : RI ad h.1 δ0 δ) {b i : Nat} {v : Int32} (w : wq ad b) : RI ad h.1 δ0 (s_R δ b i v) := by
  refine ⟨I.1, fun b' j => ?_, I.2.2.1, fun j hj => ?_, I.2.2.2.2⟩
  · rw [qR_sR]
    by_cases e : b' = b ∧ j = i
    · rw [if_pos e, e.1, w.d L]; exact ti_b _
    · rw [if_neg e]; exact I.2.1 b' j
  · rw [rR_o (w.ne L (by omega) (Or.inl (by omega)))]; exact I.2.2.2.1 j hj
/-- which rows may have changed -/
def kr (ad : List Nat) (W : List Nat) (δ δ1 : dp) : Prop := ∀ i, 100 ≤ i → i < 127 → i ∉ W → q_R δ1 (Ad ad i) = q_R δ (Ad ad i)
theorem kr_r {ad : List Nat} {δ : dp} : kr ad [] δ δ := fun _ _ _ _ => rfl
theorem kr_w {ad : List Nat} {W W1 : List Nat} {δ δ1 : dp} (h : ∀ x ∈ W1, x ∈ W) (H : kr ad W1 δ δ1) : kr ad W δ δ1 := fun i a b n => H i a b (fun m => n (h _ m))
theorem kr_s {ad : List Nat} {h : hp} (L : Lay TLx ad h) {W : List Nat} {δ δ1 δ2 : dp} {j i : Nat} {v : Int32} (hj : j < 128) (H : kr ad W δ δ1) (e : δ2 = s_R δ1 (Ad ad j) i v) : kr ad (j :: W) δ δ2 := fun q a b n => by
  rw [e, rR_o (fun z => n (by rw [Ad_eq L q j (by omega) hj] at z; rw [z]; exact List.mem_cons_self))]
  exact H q a b (fun m => n (List.mem_cons_of_mem _ m))
theorem kr_N {ad : List Nat} {W : List Nat} {δ δ1 δ2 : dp} (H : kr ad W δ δ1) (e : q_R δ2 = q_R δ1) : kr ad W δ δ2 := fun q a b n => by rw [e]; exact H q a b n
theorem kr_t {ad : List Nat} {W W1 : List Nat} {δ δ1 δ2 : dp} (H : kr ad W δ δ1) (K : kr ad W1 δ1 δ2) : kr ad (W1 ++ W) δ δ2 := fun q a b n => (K q a b (fun m => n (List.mem_append_left _ m))).trans (H q a b (fun m => n (List.mem_append_right _ m)))
theorem lay_12 {ad : List Nat} {h : hp} (L : Lay TLx ad h) {a : Nat} (ka : q_K h.1 a = 12) : a = Ad ad 99 := by
  obtain ⟨q, hq, rfl⟩ := lay_cel L (by rw [ka]; decide)
  rw [lay_knd L hq] at ka
  have H : ∀ i : Fin 128, knd i.val = 12 → i.val = 99 := by decide +kernel
  obtain rfl : q = 99 := H ⟨q, hq⟩ ka
  rfl
theorem bq_103 {ad : List Nat} {h : hp} (L : Lay TLx ad h) : b_Q ad (Ad ad 103) = (-1000, 2000) := by
  simp [b_Q, Ad_eq L]
theorem rb_103 {ad : List Nat} {h : hp} (L : Lay TLx ad h) {δ0 δ : dp} (I : RI ad h.1 δ0 δ) (i : Nat) : -1000 ≤ (q_R δ (Ad ad 103) i).toInt ∧ (q_R δ (Ad ad 103) i).toInt ≤ 2000 := by
  have := I.2.1 (Ad ad 103) i
  rw [bq_103 L] at this
  exact this
theorem cr_103 {ad : List Nat} {h : hp} (L : Lay TLx ad h) {δ0 δ : dp} (I : RI ad h.1 δ0 δ) {i : Nat} {v : Int32} (h1 : -1000 ≤ v.toInt) (h2 : v.toInt ≤ 2000) : RI ad h.1 δ0 (s_R δ (Ad ad 103) i v) := by
  refine ⟨I.1, fun b' j => ?_, I.2.2.1, fun j hj => ?_, I.2.2.2.2⟩
  · rw [qR_sR]
    by_cases e : b' = Ad ad 103 ∧ j = i
    · rw [if_pos e, e.1, bq_103 L]; exact ⟨h1, h2⟩
    · rw [if_neg e]; exact I.2.1 b' j
  · rw [rR_o (fun e => by rw [Ad_eq L _ _ (by omega) (by omega)] at e; omega)]; exact I.2.2.2.1 j hj
theorem bq_106 {ad : List Nat} {h : hp} (L : Lay TLx ad h) : b_Q ad (Ad ad 106) = (0, 1000) := by
  simp [b_Q, Ad_eq L]
theorem rb_106 {ad : List Nat} {h : hp} (L : Lay TLx ad h) {δ0 δ : dp} (I : RI ad h.1 δ0 δ) (i : Nat) : 0 ≤ (q_R δ (Ad ad 106) i).toInt ∧ (q_R δ (Ad ad 106) i).toInt ≤ 1000 := by
  have := I.2.1 (Ad ad 106) i
  rw [bq_106 L] at this
  exact this
theorem cr_106 {ad : List Nat} {h : hp} (L : Lay TLx ad h) {δ0 δ : dp} (I : RI ad h.1 δ0 δ) {i : Nat} {v : Int32} (h1 : 0 ≤ v.toInt) (h2 : v.toInt ≤ 1000) : RI ad h.1 δ0 (s_R δ (Ad ad 106) i v) := by
  refine ⟨I.1, fun b' j => ?_, I.2.2.1, fun j hj => ?_, I.2.2.2.2⟩
  · rw [qR_sR]
    by_cases e : b' = Ad ad 106 ∧ j = i
    · rw [if_pos e, e.1, bq_106 L]; exact ⟨h1, h2⟩
    · rw [if_neg e]; exact I.2.1 b' j
  · rw [rR_o (fun e => by rw [Ad_eq L _ _ (by omega) (by omega)] at e; omega)]; exact I.2.2.2.1 j hj
theorem bq_108 {ad : List Nat} {h : hp} (L : Lay TLx ad h) : b_Q ad (Ad ad 108) = (-1000, 2000) := by
  simp [b_Q, Ad_eq L]
theorem rb_108 {ad : List Nat} {h : hp} (L : Lay TLx ad h) {δ0 δ : dp} (I : RI ad h.1 δ0 δ) (i : Nat) : -1000 ≤ (q_R δ (Ad ad 108) i).toInt ∧ (q_R δ (Ad ad 108) i).toInt ≤ 2000 := by
  have := I.2.1 (Ad ad 108) i
  rw [bq_108 L] at this
  exact this
theorem cr_108 {ad : List Nat} {h : hp} (L : Lay TLx ad h) {δ0 δ : dp} (I : RI ad h.1 δ0 δ) {i : Nat} {v : Int32} (h1 : -1000 ≤ v.toInt) (h2 : v.toInt ≤ 2000) : RI ad h.1 δ0 (s_R δ (Ad ad 108) i v) := by
  refine ⟨I.1, fun b' j => ?_, I.2.2.1, fun j hj => ?_, I.2.2.2.2⟩
  · rw [qR_sR]
    by_cases e : b' = Ad ad 108 ∧ j = i
    · rw [if_pos e, e.1, bq_108 L]; exact ⟨h1, h2⟩
    · rw [if_neg e]; exact I.2.1 b' j
  · rw [rR_o (fun e => by rw [Ad_eq L _ _ (by omega) (by omega)] at e; omega)]; exact I.2.2.2.1 j hj
theorem bq_111 {ad : List Nat} {h : hp} (L : Lay TLx ad h) : b_Q ad (Ad ad 111) = (0, 1000) := by
  simp [b_Q, Ad_eq L]
theorem rb_111 {ad : List Nat} {h : hp} (L : Lay TLx ad h) {δ0 δ : dp} (I : RI ad h.1 δ0 δ) (i : Nat) : 0 ≤ (q_R δ (Ad ad 111) i).toInt ∧ (q_R δ (Ad ad 111) i).toInt ≤ 1000 := by
  have := I.2.1 (Ad ad 111) i
  rw [bq_111 L] at this
  exact this
theorem cr_111 {ad : List Nat} {h : hp} (L : Lay TLx ad h) {δ0 δ : dp} (I : RI ad h.1 δ0 δ) {i : Nat} {v : Int32} (h1 : 0 ≤ v.toInt) (h2 : v.toInt ≤ 1000) : RI ad h.1 δ0 (s_R δ (Ad ad 111) i v) := by
  refine ⟨I.1, fun b' j => ?_, I.2.2.1, fun j hj => ?_, I.2.2.2.2⟩
  · rw [qR_sR]
    by_cases e : b' = Ad ad 111 ∧ j = i
    · rw [if_pos e, e.1, bq_111 L]; exact ⟨h1, h2⟩
    · rw [if_neg e]; exact I.2.1 b' j
  · rw [rR_o (fun e => by rw [Ad_eq L _ _ (by omega) (by omega)] at e; omega)]; exact I.2.2.2.1 j hj
theorem bq_112 {ad : List Nat} {h : hp} (L : Lay TLx ad h) : b_Q ad (Ad ad 112) = (0, 60) := by
  simp [b_Q, Ad_eq L]
theorem rb_112 {ad : List Nat} {h : hp} (L : Lay TLx ad h) {δ0 δ : dp} (I : RI ad h.1 δ0 δ) (i : Nat) : 0 ≤ (q_R δ (Ad ad 112) i).toInt ∧ (q_R δ (Ad ad 112) i).toInt ≤ 60 := by
  have := I.2.1 (Ad ad 112) i
  rw [bq_112 L] at this
  exact this
theorem cr_112 {ad : List Nat} {h : hp} (L : Lay TLx ad h) {δ0 δ : dp} (I : RI ad h.1 δ0 δ) {i : Nat} {v : Int32} (h1 : 0 ≤ v.toInt) (h2 : v.toInt ≤ 60) : RI ad h.1 δ0 (s_R δ (Ad ad 112) i v) := by
  refine ⟨I.1, fun b' j => ?_, I.2.2.1, fun j hj => ?_, I.2.2.2.2⟩
  · rw [qR_sR]
    by_cases e : b' = Ad ad 112 ∧ j = i
    · rw [if_pos e, e.1, bq_112 L]; exact ⟨h1, h2⟩
    · rw [if_neg e]; exact I.2.1 b' j
  · rw [rR_o (fun e => by rw [Ad_eq L _ _ (by omega) (by omega)] at e; omega)]; exact I.2.2.2.1 j hj
theorem gO_12_1 {ad : List Nat} {h : hp} (L : Lay TLx ad h) {a : Nat} (ka : q_K h.1 a = 12) : ∃ b, q_O h.1 12 1 a = some b ∧ q_K h.1 b = 13 ∧ q_N h.1 b = 3 ∧ wq ad b := by
  obtain rfl := lay_12 L ka
  exact ⟨_, fO_99_1 L, (lay_knd L (by decide)).trans (by decide), fN_100 L, 100, by decide, by decide, by decide, rfl⟩
theorem gS_12_1 {ad : List Nat} {h : hp} (L : Lay TLx ad h) {a b : Nat} (ka : q_K h.1 a = 12) (hb : q_O h.1 12 1 a = some b) : b = Ad ad 100 := by
  obtain rfl := lay_12 L ka
  rw [fO_99_1 L] at hb
  exact (Option.some.inj hb).symm
theorem gO_12_9 {ad : List Nat} {h : hp} (L : Lay TLx ad h) {a : Nat} (ka : q_K h.1 a = 12) : ∃ b, q_O h.1 12 9 a = some b ∧ q_K h.1 b = 13 ∧ q_N h.1 b = 500 ∧ wq ad b := by
  obtain rfl := lay_12 L ka
  exact ⟨_, fO_99_9 L, (lay_knd L (by decide)).trans (by decide), fN_101 L, 101, by decide, by decide, by decide, rfl⟩
theorem gS_12_9 {ad : List Nat} {h : hp} (L : Lay TLx ad h) {a b : Nat} (ka : q_K h.1 a = 12) (hb : q_O h.1 12 9 a = some b) : b = Ad ad 101 := by
  obtain rfl := lay_12 L ka
  rw [fO_99_9 L] at hb
  exact (Option.some.inj hb).symm
theorem gO_12_13 {ad : List Nat} {h : hp} (L : Lay TLx ad h) {a : Nat} (ka : q_K h.1 a = 12) : ∃ b, q_O h.1 12 13 a = some b ∧ q_K h.1 b = 13 ∧ q_N h.1 b = 8000 ∧ wq ad b := by
  obtain rfl := lay_12 L ka
  exact ⟨_, fO_99_13 L, (lay_knd L (by decide)).trans (by decide), fN_102 L, 102, by decide, by decide, by decide, rfl⟩
theorem gS_12_13 {ad : List Nat} {h : hp} (L : Lay TLx ad h) {a b : Nat} (ka : q_K h.1 a = 12) (hb : q_O h.1 12 13 a = some b) : b = Ad ad 102 := by
  obtain rfl := lay_12 L ka
  rw [fO_99_13 L] at hb
  exact (Option.some.inj hb).symm
theorem gO_12_14 {ad : List Nat} {h : hp} (L : Lay TLx ad h) {a : Nat} (ka : q_K h.1 a = 12) : ∃ b, q_O h.1 12 14 a = some b ∧ q_K h.1 b = 13 ∧ q_N h.1 b = 4 := by
  obtain rfl := lay_12 L ka
  exact ⟨_, fO_99_14 L, (lay_knd L (by decide)).trans (by decide), fN_103 L⟩
theorem gS_12_14 {ad : List Nat} {h : hp} (L : Lay TLx ad h) {a b : Nat} (ka : q_K h.1 a = 12) (hb : q_O h.1 12 14 a = some b) : b = Ad ad 103 := by
  obtain rfl := lay_12 L ka
  rw [fO_99_14 L] at hb
  exact (Option.some.inj hb).symm
theorem gO_12_15 {ad : List Nat} {h : hp} (L : Lay TLx ad h) {a : Nat} (ka : q_K h.1 a = 12) : ∃ b, q_O h.1 12 15 a = some b ∧ q_K h.1 b = 13 ∧ q_N h.1 b = 4000 ∧ wq ad b := by
  obtain rfl := lay_12 L ka
  exact ⟨_, fO_99_15 L, (lay_knd L (by decide)).trans (by decide), fN_104 L, 104, by decide, by decide, by decide, rfl⟩
theorem gS_12_15 {ad : List Nat} {h : hp} (L : Lay TLx ad h) {a b : Nat} (ka : q_K h.1 a = 12) (hb : q_O h.1 12 15 a = some b) : b = Ad ad 104 := by
  obtain rfl := lay_12 L ka
  rw [fO_99_15 L] at hb
  exact (Option.some.inj hb).symm
theorem gO_12_16 {ad : List Nat} {h : hp} (L : Lay TLx ad h) {a : Nat} (ka : q_K h.1 a = 12) : ∃ b, q_O h.1 12 16 a = some b ∧ q_K h.1 b = 13 ∧ q_N h.1 b = 4000 ∧ wq ad b := by
  obtain rfl := lay_12 L ka
  exact ⟨_, fO_99_16 L, (lay_knd L (by decide)).trans (by decide), fN_105 L, 105, by decide, by decide, by decide, rfl⟩
theorem gS_12_16 {ad : List Nat} {h : hp} (L : Lay TLx ad h) {a b : Nat} (ka : q_K h.1 a = 12) (hb : q_O h.1 12 16 a = some b) : b = Ad ad 105 := by
  obtain rfl := lay_12 L ka
  rw [fO_99_16 L] at hb
  exact (Option.some.inj hb).symm
theorem gO_12_17 {ad : List Nat} {h : hp} (L : Lay TLx ad h) {a : Nat} (ka : q_K h.1 a = 12) : ∃ b, q_O h.1 12 17 a = some b ∧ q_K h.1 b = 13 ∧ q_N h.1 b = 4 := by
  obtain rfl := lay_12 L ka
  exact ⟨_, fO_99_17 L, (lay_knd L (by decide)).trans (by decide), fN_106 L⟩
theorem gS_12_17 {ad : List Nat} {h : hp} (L : Lay TLx ad h) {a b : Nat} (ka : q_K h.1 a = 12) (hb : q_O h.1 12 17 a = some b) : b = Ad ad 106 := by
  obtain rfl := lay_12 L ka
  rw [fO_99_17 L] at hb
  exact (Option.some.inj hb).symm
theorem gO_12_19 {ad : List Nat} {h : hp} (L : Lay TLx ad h) {a : Nat} (ka : q_K h.1 a = 12) : ∃ b, q_O h.1 12 19 a = some b ∧ q_K h.1 b = 13 ∧ q_N h.1 b = 24000 ∧ wq ad b := by
  obtain rfl := lay_12 L ka
  exact ⟨_, fO_99_19 L, (lay_knd L (by decide)).trans (by decide), fN_107 L, 107, by decide, by decide, by decide, rfl⟩
theorem gS_12_19 {ad : List Nat} {h : hp} (L : Lay TLx ad h) {a b : Nat} (ka : q_K h.1 a = 12) (hb : q_O h.1 12 19 a = some b) : b = Ad ad 107 := by
  obtain rfl := lay_12 L ka
  rw [fO_99_19 L] at hb
  exact (Option.some.inj hb).symm
theorem gO_12_20 {ad : List Nat} {h : hp} (L : Lay TLx ad h) {a : Nat} (ka : q_K h.1 a = 12) : ∃ b, q_O h.1 12 20 a = some b ∧ q_K h.1 b = 13 ∧ q_N h.1 b = 12 := by
  obtain rfl := lay_12 L ka
  exact ⟨_, fO_99_20 L, (lay_knd L (by decide)).trans (by decide), fN_108 L⟩
theorem gS_12_20 {ad : List Nat} {h : hp} (L : Lay TLx ad h) {a b : Nat} (ka : q_K h.1 a = 12) (hb : q_O h.1 12 20 a = some b) : b = Ad ad 108 := by
  obtain rfl := lay_12 L ka
  rw [fO_99_20 L] at hb
  exact (Option.some.inj hb).symm
theorem gO_12_21 {ad : List Nat} {h : hp} (L : Lay TLx ad h) {a : Nat} (ka : q_K h.1 a = 12) : ∃ b, q_O h.1 12 21 a = some b ∧ q_K h.1 b = 13 ∧ q_N h.1 b = 12000 ∧ wq ad b := by
  obtain rfl := lay_12 L ka
  exact ⟨_, fO_99_21 L, (lay_knd L (by decide)).trans (by decide), fN_109 L, 109, by decide, by decide, by decide, rfl⟩
theorem gS_12_21 {ad : List Nat} {h : hp} (L : Lay TLx ad h) {a b : Nat} (ka : q_K h.1 a = 12) (hb : q_O h.1 12 21 a = some b) : b = Ad ad 109 := by
  obtain rfl := lay_12 L ka
  rw [fO_99_21 L] at hb
  exact (Option.some.inj hb).symm
theorem gO_12_22 {ad : List Nat} {h : hp} (L : Lay TLx ad h) {a : Nat} (ka : q_K h.1 a = 12) : ∃ b, q_O h.1 12 22 a = some b ∧ q_K h.1 b = 13 ∧ q_N h.1 b = 12000 ∧ wq ad b := by
  obtain rfl := lay_12 L ka
  exact ⟨_, fO_99_22 L, (lay_knd L (by decide)).trans (by decide), fN_110 L, 110, by decide, by decide, by decide, rfl⟩
theorem gS_12_22 {ad : List Nat} {h : hp} (L : Lay TLx ad h) {a b : Nat} (ka : q_K h.1 a = 12) (hb : q_O h.1 12 22 a = some b) : b = Ad ad 110 := by
  obtain rfl := lay_12 L ka
  rw [fO_99_22 L] at hb
  exact (Option.some.inj hb).symm
theorem gO_12_23 {ad : List Nat} {h : hp} (L : Lay TLx ad h) {a : Nat} (ka : q_K h.1 a = 12) : ∃ b, q_O h.1 12 23 a = some b ∧ q_K h.1 b = 13 ∧ q_N h.1 b = 12 := by
  obtain rfl := lay_12 L ka
  exact ⟨_, fO_99_23 L, (lay_knd L (by decide)).trans (by decide), fN_111 L⟩
theorem gS_12_23 {ad : List Nat} {h : hp} (L : Lay TLx ad h) {a b : Nat} (ka : q_K h.1 a = 12) (hb : q_O h.1 12 23 a = some b) : b = Ad ad 111 := by
  obtain rfl := lay_12 L ka
  rw [fO_99_23 L] at hb
  exact (Option.some.inj hb).symm
theorem gO_12_28 {ad : List Nat} {h : hp} (L : Lay TLx ad h) {a : Nat} (ka : q_K h.1 a = 12) : ∃ b, q_O h.1 12 28 a = some b ∧ q_K h.1 b = 13 ∧ q_N h.1 b = 4 := by
  obtain rfl := lay_12 L ka
  exact ⟨_, fO_99_28 L, (lay_knd L (by decide)).trans (by decide), fN_112 L⟩
theorem gS_12_28 {ad : List Nat} {h : hp} (L : Lay TLx ad h) {a b : Nat} (ka : q_K h.1 a = 12) (hb : q_O h.1 12 28 a = some b) : b = Ad ad 112 := by
  obtain rfl := lay_12 L ka
  rw [fO_99_28 L] at hb
  exact (Option.some.inj hb).symm
theorem gO_12_29 {ad : List Nat} {h : hp} (L : Lay TLx ad h) {a : Nat} (ka : q_K h.1 a = 12) : ∃ b, q_O h.1 12 29 a = some b ∧ q_K h.1 b = 13 ∧ q_N h.1 b = 240 ∧ wq ad b := by
  obtain rfl := lay_12 L ka
  exact ⟨_, fO_99_29 L, (lay_knd L (by decide)).trans (by decide), fN_113 L, 113, by decide, by decide, by decide, rfl⟩
theorem gS_12_29 {ad : List Nat} {h : hp} (L : Lay TLx ad h) {a b : Nat} (ka : q_K h.1 a = 12) (hb : q_O h.1 12 29 a = some b) : b = Ad ad 113 := by
  obtain rfl := lay_12 L ka
  rw [fO_99_29 L] at hb
  exact (Option.some.inj hb).symm
theorem gO_12_30 {ad : List Nat} {h : hp} (L : Lay TLx ad h) {a : Nat} (ka : q_K h.1 a = 12) : ∃ b, q_O h.1 12 30 a = some b ∧ q_K h.1 b = 13 ∧ q_N h.1 b = 240 ∧ wq ad b := by
  obtain rfl := lay_12 L ka
  exact ⟨_, fO_99_30 L, (lay_knd L (by decide)).trans (by decide), fN_114 L, 114, by decide, by decide, by decide, rfl⟩
theorem gS_12_30 {ad : List Nat} {h : hp} (L : Lay TLx ad h) {a b : Nat} (ka : q_K h.1 a = 12) (hb : q_O h.1 12 30 a = some b) : b = Ad ad 114 := by
  obtain rfl := lay_12 L ka
  rw [fO_99_30 L] at hb
  exact (Option.some.inj hb).symm
theorem gO_12_31 {ad : List Nat} {h : hp} (L : Lay TLx ad h) {a : Nat} (ka : q_K h.1 a = 12) : ∃ b, q_O h.1 12 31 a = some b ∧ q_K h.1 b = 13 ∧ q_N h.1 b = 240 ∧ wq ad b := by
  obtain rfl := lay_12 L ka
  exact ⟨_, fO_99_31 L, (lay_knd L (by decide)).trans (by decide), fN_115 L, 115, by decide, by decide, by decide, rfl⟩
theorem gS_12_31 {ad : List Nat} {h : hp} (L : Lay TLx ad h) {a b : Nat} (ka : q_K h.1 a = 12) (hb : q_O h.1 12 31 a = some b) : b = Ad ad 115 := by
  obtain rfl := lay_12 L ka
  rw [fO_99_31 L] at hb
  exact (Option.some.inj hb).symm
theorem gO_12_32 {ad : List Nat} {h : hp} (L : Lay TLx ad h) {a : Nat} (ka : q_K h.1 a = 12) : ∃ b, q_O h.1 12 32 a = some b ∧ q_K h.1 b = 13 ∧ q_N h.1 b = 2000 ∧ wq ad b := by
  obtain rfl := lay_12 L ka
  exact ⟨_, fO_99_32 L, (lay_knd L (by decide)).trans (by decide), fN_116 L, 116, by decide, by decide, by decide, rfl⟩
theorem gS_12_32 {ad : List Nat} {h : hp} (L : Lay TLx ad h) {a b : Nat} (ka : q_K h.1 a = 12) (hb : q_O h.1 12 32 a = some b) : b = Ad ad 116 := by
  obtain rfl := lay_12 L ka
  rw [fO_99_32 L] at hb
  exact (Option.some.inj hb).symm
theorem gO_12_33 {ad : List Nat} {h : hp} (L : Lay TLx ad h) {a : Nat} (ka : q_K h.1 a = 12) : ∃ b, q_O h.1 12 33 a = some b ∧ q_K h.1 b = 13 ∧ q_N h.1 b = 2000 ∧ wq ad b := by
  obtain rfl := lay_12 L ka
  exact ⟨_, fO_99_33 L, (lay_knd L (by decide)).trans (by decide), fN_117 L, 117, by decide, by decide, by decide, rfl⟩
theorem gS_12_33 {ad : List Nat} {h : hp} (L : Lay TLx ad h) {a b : Nat} (ka : q_K h.1 a = 12) (hb : q_O h.1 12 33 a = some b) : b = Ad ad 117 := by
  obtain rfl := lay_12 L ka
  rw [fO_99_33 L] at hb
  exact (Option.some.inj hb).symm
theorem gO_12_34 {ad : List Nat} {h : hp} (L : Lay TLx ad h) {a : Nat} (ka : q_K h.1 a = 12) : ∃ b, q_O h.1 12 34 a = some b ∧ q_K h.1 b = 13 ∧ q_N h.1 b = 500 ∧ wq ad b := by
  obtain rfl := lay_12 L ka
  exact ⟨_, fO_99_34 L, (lay_knd L (by decide)).trans (by decide), fN_118 L, 118, by decide, by decide, by decide, rfl⟩
theorem gS_12_34 {ad : List Nat} {h : hp} (L : Lay TLx ad h) {a b : Nat} (ka : q_K h.1 a = 12) (hb : q_O h.1 12 34 a = some b) : b = Ad ad 118 := by
  obtain rfl := lay_12 L ka
  rw [fO_99_34 L] at hb
  exact (Option.some.inj hb).symm
theorem gO_12_35 {ad : List Nat} {h : hp} (L : Lay TLx ad h) {a : Nat} (ka : q_K h.1 a = 12) : ∃ b, q_O h.1 12 35 a = some b ∧ q_K h.1 b = 13 ∧ q_N h.1 b = 14000 ∧ wq ad b := by
  obtain rfl := lay_12 L ka
  exact ⟨_, fO_99_35 L, (lay_knd L (by decide)).trans (by decide), fN_119 L, 119, by decide, by decide, by decide, rfl⟩
theorem gS_12_35 {ad : List Nat} {h : hp} (L : Lay TLx ad h) {a b : Nat} (ka : q_K h.1 a = 12) (hb : q_O h.1 12 35 a = some b) : b = Ad ad 119 := by
  obtain rfl := lay_12 L ka
  rw [fO_99_35 L] at hb
  exact (Option.some.inj hb).symm
theorem gO_12_41 {ad : List Nat} {h : hp} (L : Lay TLx ad h) {a : Nat} (ka : q_K h.1 a = 12) : ∃ b, q_O h.1 12 41 a = some b ∧ q_K h.1 b = 13 ∧ q_N h.1 b = 16 ∧ wq ad b := by
  obtain rfl := lay_12 L ka
  exact ⟨_, fO_99_41 L, (lay_knd L (by decide)).trans (by decide), fN_120 L, 120, by decide, by decide, by decide, rfl⟩
theorem gS_12_41 {ad : List Nat} {h : hp} (L : Lay TLx ad h) {a b : Nat} (ka : q_K h.1 a = 12) (hb : q_O h.1 12 41 a = some b) : b = Ad ad 120 := by
  obtain rfl := lay_12 L ka
  rw [fO_99_41 L] at hb
  exact (Option.some.inj hb).symm
theorem gO_12_42 {ad : List Nat} {h : hp} (L : Lay TLx ad h) {a : Nat} (ka : q_K h.1 a = 12) : ∃ b, q_O h.1 12 42 a = some b ∧ q_K h.1 b = 13 ∧ q_N h.1 b = 16 ∧ wq ad b := by
  obtain rfl := lay_12 L ka
  exact ⟨_, fO_99_42 L, (lay_knd L (by decide)).trans (by decide), fN_121 L, 121, by decide, by decide, by decide, rfl⟩
theorem gS_12_42 {ad : List Nat} {h : hp} (L : Lay TLx ad h) {a b : Nat} (ka : q_K h.1 a = 12) (hb : q_O h.1 12 42 a = some b) : b = Ad ad 121 := by
  obtain rfl := lay_12 L ka
  rw [fO_99_42 L] at hb
  exact (Option.some.inj hb).symm
theorem gO_12_43 {ad : List Nat} {h : hp} (L : Lay TLx ad h) {a : Nat} (ka : q_K h.1 a = 12) : ∃ b, q_O h.1 12 43 a = some b ∧ q_K h.1 b = 13 ∧ q_N h.1 b = 458752 ∧ wq ad b := by
  obtain rfl := lay_12 L ka
  exact ⟨_, fO_99_43 L, (lay_knd L (by decide)).trans (by decide), fN_122 L, 122, by decide, by decide, by decide, rfl⟩
theorem gS_12_43 {ad : List Nat} {h : hp} (L : Lay TLx ad h) {a b : Nat} (ka : q_K h.1 a = 12) (hb : q_O h.1 12 43 a = some b) : b = Ad ad 122 := by
  obtain rfl := lay_12 L ka
  rw [fO_99_43 L] at hb
  exact (Option.some.inj hb).symm
theorem gO_12_44 {ad : List Nat} {h : hp} (L : Lay TLx ad h) {a : Nat} (ka : q_K h.1 a = 12) : ∃ b, q_O h.1 12 44 a = some b ∧ q_K h.1 b = 13 ∧ q_N h.1 b = 6 ∧ wq ad b := by
  obtain rfl := lay_12 L ka
  exact ⟨_, fO_99_44 L, (lay_knd L (by decide)).trans (by decide), fN_123 L, 123, by decide, by decide, by decide, rfl⟩
theorem gS_12_44 {ad : List Nat} {h : hp} (L : Lay TLx ad h) {a b : Nat} (ka : q_K h.1 a = 12) (hb : q_O h.1 12 44 a = some b) : b = Ad ad 123 := by
  obtain rfl := lay_12 L ka
  rw [fO_99_44 L] at hb
  exact (Option.some.inj hb).symm
theorem gO_12_46 {ad : List Nat} {h : hp} (L : Lay TLx ad h) {a : Nat} (ka : q_K h.1 a = 12) : ∃ b, q_O h.1 12 46 a = some b ∧ q_K h.1 b = 13 ∧ q_N h.1 b = 2000 ∧ wq ad b := by
  obtain rfl := lay_12 L ka
  exact ⟨_, fO_99_46 L, (lay_knd L (by decide)).trans (by decide), fN_124 L, 124, by decide, by decide, by decide, rfl⟩
theorem gS_12_46 {ad : List Nat} {h : hp} (L : Lay TLx ad h) {a b : Nat} (ka : q_K h.1 a = 12) (hb : q_O h.1 12 46 a = some b) : b = Ad ad 124 := by
  obtain rfl := lay_12 L ka
  rw [fO_99_46 L] at hb
  exact (Option.some.inj hb).symm
theorem gO_12_48 {ad : List Nat} {h : hp} (L : Lay TLx ad h) {a : Nat} (ka : q_K h.1 a = 12) : ∃ b, q_O h.1 12 48 a = some b ∧ q_K h.1 b = 13 ∧ q_N h.1 b = 2000 ∧ wq ad b := by
  obtain rfl := lay_12 L ka
  exact ⟨_, fO_99_48 L, (lay_knd L (by decide)).trans (by decide), fN_125 L, 125, by decide, by decide, by decide, rfl⟩
theorem gS_12_48 {ad : List Nat} {h : hp} (L : Lay TLx ad h) {a b : Nat} (ka : q_K h.1 a = 12) (hb : q_O h.1 12 48 a = some b) : b = Ad ad 125 := by
  obtain rfl := lay_12 L ka
  rw [fO_99_48 L] at hb
  exact (Option.some.inj hb).symm
theorem gO_12_57 {ad : List Nat} {h : hp} (L : Lay TLx ad h) {a : Nat} (ka : q_K h.1 a = 12) : ∃ b, q_O h.1 12 57 a = some b ∧ q_K h.1 b = 13 ∧ q_N h.1 b = 4 ∧ wq ad b := by
  obtain rfl := lay_12 L ka
  exact ⟨_, fO_99_57 L, (lay_knd L (by decide)).trans (by decide), fN_126 L, 126, by decide, by decide, by decide, rfl⟩
theorem gS_12_57 {ad : List Nat} {h : hp} (L : Lay TLx ad h) {a b : Nat} (ka : q_K h.1 a = 12) (hb : q_O h.1 12 57 a = some b) : b = Ad ad 126 := by
  obtain rfl := lay_12 L ka
  rw [fO_99_57 L] at hb
  exact (Option.some.inj hb).symm
theorem cs_12_0 {ad : List Nat} {h : hp} (L : Lay TLx ad h) {δ0 δ : dp} (I : RI ad h.1 δ0 δ) {a : Nat} {v : Int32} : RI ad h.1 δ0 (s_I δ 12 0 a v) := I.sI L (by simpa [b12] using (ti_b v).1) (by simpa [b12] using (ti_b v).2)
theorem cs_12_2 {ad : List Nat} {h : hp} (L : Lay TLx ad h) {δ0 δ : dp} (I : RI ad h.1 δ0 δ) {a : Nat} {v : Int32} (_ : q_K h.1 a = 12) (h1 : 0 ≤ v.toInt) (h2 : v.toInt ≤ 500) : RI ad h.1 δ0 (s_I δ 12 2 a v) := I.sI L (by simpa [b12] using h1) (by simpa [b12] using h2)
theorem cb_12_2 {ad : List Nat} {g : gp} {δ0 δ : dp} (I : RI ad g δ0 δ) {a : Nat} (ka : q_K g a = 12) : 0 ≤ (q_I δ 12 2 a).toInt ∧ (q_I δ 12 2 a).toInt ≤ 500 := by
  have := I.1 2 a ka
  simpa [b12] using this
theorem cs_12_3 {ad : List Nat} {h : hp} (L : Lay TLx ad h) {δ0 δ : dp} (I : RI ad h.1 δ0 δ) {a : Nat} {v : Int32} (_ : q_K h.1 a = 12) (h1 : 0 ≤ v.toInt) (h2 : v.toInt ≤ 500) : RI ad h.1 δ0 (s_I δ 12 3 a v) := I.sI L (by simpa [b12] using h1) (by simpa [b12] using h2)
theorem cb_12_3 {ad : List Nat} {g : gp} {δ0 δ : dp} (I : RI ad g δ0 δ) {a : Nat} (ka : q_K g a = 12) : 0 ≤ (q_I δ 12 3 a).toInt ∧ (q_I δ 12 3 a).toInt ≤ 500 := by
  have := I.1 3 a ka
  simpa [b12] using this
theorem cs_12_4 {ad : List Nat} {h : hp} (L : Lay TLx ad h) {δ0 δ : dp} (I : RI ad h.1 δ0 δ) {a : Nat} {v : Int32} (_ : q_K h.1 a = 12) (h1 : 0 ≤ v.toInt) (h2 : v.toInt ≤ 500) : RI ad h.1 δ0 (s_I δ 12 4 a v) := I.sI L (by simpa [b12] using h1) (by simpa [b12] using h2)
theorem cb_12_4 {ad : List Nat} {g : gp} {δ0 δ : dp} (I : RI ad g δ0 δ) {a : Nat} (ka : q_K g a = 12) : 0 ≤ (q_I δ 12 4 a).toInt ∧ (q_I δ 12 4 a).toInt ≤ 500 := by
  have := I.1 4 a ka
  simpa [b12] using this
theorem cs_12_5 {ad : List Nat} {h : hp} (L : Lay TLx ad h) {δ0 δ : dp} (I : RI ad h.1 δ0 δ) {a : Nat} {v : Int32} (_ : q_K h.1 a = 12) (h1 : -1 ≤ v.toInt) (h2 : v.toInt ≤ 500) : RI ad h.1 δ0 (s_I δ 12 5 a v) := I.sI L (by simpa [b12] using h1) (by simpa [b12] using h2)
theorem cb_12_5 {ad : List Nat} {g : gp} {δ0 δ : dp} (I : RI ad g δ0 δ) {a : Nat} (ka : q_K g a = 12) : -1 ≤ (q_I δ 12 5 a).toInt ∧ (q_I δ 12 5 a).toInt ≤ 500 := by
  have := I.1 5 a ka
  simpa [b12] using this
theorem cs_12_6 {ad : List Nat} {h : hp} (L : Lay TLx ad h) {δ0 δ : dp} (I : RI ad h.1 δ0 δ) {a : Nat} {v : Int32} (_ : q_K h.1 a = 12) (h1 : 0 ≤ v.toInt) (h2 : v.toInt ≤ 4) : RI ad h.1 δ0 (s_I δ 12 6 a v) := I.sI L (by simpa [b12] using h1) (by simpa [b12] using h2)
theorem cb_12_6 {ad : List Nat} {g : gp} {δ0 δ : dp} (I : RI ad g δ0 δ) {a : Nat} (ka : q_K g a = 12) : 0 ≤ (q_I δ 12 6 a).toInt ∧ (q_I δ 12 6 a).toInt ≤ 4 := by
  have := I.1 6 a ka
  simpa [b12] using this
theorem cs_12_7 {ad : List Nat} {h : hp} (L : Lay TLx ad h) {δ0 δ : dp} (I : RI ad h.1 δ0 δ) {a : Nat} {v : Int32} : RI ad h.1 δ0 (s_I δ 12 7 a v) := I.sI L (by simpa [b12] using (ti_b v).1) (by simpa [b12] using (ti_b v).2)
theorem cs_12_8 {ad : List Nat} {h : hp} (L : Lay TLx ad h) {δ0 δ : dp} (I : RI ad h.1 δ0 δ) {a : Nat} {v : Int32} : RI ad h.1 δ0 (s_I δ 12 8 a v) := I.sI L (by simpa [b12] using (ti_b v).1) (by simpa [b12] using (ti_b v).2)
theorem cs_12_10 {ad : List Nat} {h : hp} (L : Lay TLx ad h) {δ0 δ : dp} (I : RI ad h.1 δ0 δ) {a : Nat} {v : Int32} (_ : q_K h.1 a = 12) (h1 : 2 ≤ v.toInt) (h2 : v.toInt ≤ 16) : RI ad h.1 δ0 (s_I δ 12 10 a v) := I.sI L (by simpa [b12] using h1) (by simpa [b12] using h2)
theorem cb_12_10 {ad : List Nat} {g : gp} {δ0 δ : dp} (I : RI ad g δ0 δ) {a : Nat} (ka : q_K g a = 12) : 2 ≤ (q_I δ 12 10 a).toInt ∧ (q_I δ 12 10 a).toInt ≤ 16 := by
  have := I.1 10 a ka
  simpa [b12] using this
theorem cs_12_11 {ad : List Nat} {h : hp} (L : Lay TLx ad h) {δ0 δ : dp} (I : RI ad h.1 δ0 δ) {a : Nat} {v : Int32} (_ : q_K h.1 a = 12) (h1 : 1 ≤ v.toInt) (h2 : v.toInt ≤ 5) : RI ad h.1 δ0 (s_I δ 12 11 a v) := I.sI L (by simpa [b12] using h1) (by simpa [b12] using h2)
theorem cb_12_11 {ad : List Nat} {g : gp} {δ0 δ : dp} (I : RI ad g δ0 δ) {a : Nat} (ka : q_K g a = 12) : 1 ≤ (q_I δ 12 11 a).toInt ∧ (q_I δ 12 11 a).toInt ≤ 5 := by
  have := I.1 11 a ka
  simpa [b12] using this
theorem cs_12_12 {ad : List Nat} {h : hp} (L : Lay TLx ad h) {δ0 δ : dp} (I : RI ad h.1 δ0 δ) {a : Nat} {v : Int32} (_ : q_K h.1 a = 12) (h1 : 0 ≤ v.toInt) (h2 : v.toInt ≤ 1) : RI ad h.1 δ0 (s_I δ 12 12 a v) := I.sI L (by simpa [b12] using h1) (by simpa [b12] using h2)
theorem cb_12_12 {ad : List Nat} {g : gp} {δ0 δ : dp} (I : RI ad g δ0 δ) {a : Nat} (ka : q_K g a = 12) : 0 ≤ (q_I δ 12 12 a).toInt ∧ (q_I δ 12 12 a).toInt ≤ 1 := by
  have := I.1 12 a ka
  simpa [b12] using this
theorem cs_12_18 {ad : List Nat} {h : hp} (L : Lay TLx ad h) {δ0 δ : dp} (I : RI ad h.1 δ0 δ) {a : Nat} {v : Int32} (_ : q_K h.1 a = 12) (h1 : 0 ≤ v.toInt) (h2 : v.toInt ≤ 3) : RI ad h.1 δ0 (s_I δ 12 18 a v) := I.sI L (by simpa [b12] using h1) (by simpa [b12] using h2)
theorem cb_12_18 {ad : List Nat} {g : gp} {δ0 δ : dp} (I : RI ad g δ0 δ) {a : Nat} (ka : q_K g a = 12) : 0 ≤ (q_I δ 12 18 a).toInt ∧ (q_I δ 12 18 a).toInt ≤ 3 := by
  have := I.1 18 a ka
  simpa [b12] using this
theorem cs_12_24 {ad : List Nat} {h : hp} (L : Lay TLx ad h) {δ0 δ : dp} (I : RI ad h.1 δ0 δ) {a : Nat} {v : Int32} (_ : q_K h.1 a = 12) (h1 : 0 ≤ v.toInt) (h2 : v.toInt ≤ 4) : RI ad h.1 δ0 (s_I δ 12 24 a v) := I.sI L (by simpa [b12] using h1) (by simpa [b12] using h2)
theorem cb_12_24 {ad : List Nat} {g : gp} {δ0 δ : dp} (I : RI ad g δ0 δ) {a : Nat} (ka : q_K g a = 12) : 0 ≤ (q_I δ 12 24 a).toInt ∧ (q_I δ 12 24 a).toInt ≤ 4 := by
  have := I.1 24 a ka
  simpa [b12] using this
theorem cs_12_25 {ad : List Nat} {h : hp} (L : Lay TLx ad h) {δ0 δ : dp} (I : RI ad h.1 δ0 δ) {a : Nat} {v : Int32} (_ : q_K h.1 a = 12) (h1 : 0 ≤ v.toInt) (h2 : v.toInt ≤ 60) : RI ad h.1 δ0 (s_I δ 12 25 a v) := I.sI L (by simpa [b12] using h1) (by simpa [b12] using h2)
theorem cb_12_25 {ad : List Nat} {g : gp} {δ0 δ : dp} (I : RI ad g δ0 δ) {a : Nat} (ka : q_K g a = 12) : 0 ≤ (q_I δ 12 25 a).toInt ∧ (q_I δ 12 25 a).toInt ≤ 60 := by
  have := I.1 25 a ka
  simpa [b12] using this
theorem cs_12_26 {ad : List Nat} {h : hp} (L : Lay TLx ad h) {δ0 δ : dp} (I : RI ad h.1 δ0 δ) {a : Nat} {v : Int32} (_ : q_K h.1 a = 12) (h1 : 0 ≤ v.toInt) (h2 : v.toInt ≤ 500) : RI ad h.1 δ0 (s_I δ 12 26 a v) := I.sI L (by simpa [b12] using h1) (by simpa [b12] using h2)
theorem cb_12_26 {ad : List Nat} {g : gp} {δ0 δ : dp} (I : RI ad g δ0 δ) {a : Nat} (ka : q_K g a = 12) : 0 ≤ (q_I δ 12 26 a).toInt ∧ (q_I δ 12 26 a).toInt ≤ 500 := by
  have := I.1 26 a ka
  simpa [b12] using this
theorem cs_12_27 {ad : List Nat} {h : hp} (L : Lay TLx ad h) {δ0 δ : dp} (I : RI ad h.1 δ0 δ) {a : Nat} {v : Int32} (_ : q_K h.1 a = 12) (h1 : 0 ≤ v.toInt) (h2 : v.toInt ≤ 3) : RI ad h.1 δ0 (s_I δ 12 27 a v) := I.sI L (by simpa [b12] using h1) (by simpa [b12] using h2)
theorem cb_12_27 {ad : List Nat} {g : gp} {δ0 δ : dp} (I : RI ad g δ0 δ) {a : Nat} (ka : q_K g a = 12) : 0 ≤ (q_I δ 12 27 a).toInt ∧ (q_I δ 12 27 a).toInt ≤ 3 := by
  have := I.1 27 a ka
  simpa [b12] using this
theorem cs_12_36 {ad : List Nat} {h : hp} (L : Lay TLx ad h) {δ0 δ : dp} (I : RI ad h.1 δ0 δ) {a : Nat} {v : Int32} (_ : q_K h.1 a = 12) (h1 : 0 ≤ v.toInt) (h2 : v.toInt ≤ 14000) : RI ad h.1 δ0 (s_I δ 12 36 a v) := I.sI L (by simpa [b12] using h1) (by simpa [b12] using h2)
theorem cb_12_36 {ad : List Nat} {g : gp} {δ0 δ : dp} (I : RI ad g δ0 δ) {a : Nat} (ka : q_K g a = 12) : 0 ≤ (q_I δ 12 36 a).toInt ∧ (q_I δ 12 36 a).toInt ≤ 14000 := by
  have := I.1 36 a ka
  simpa [b12] using this
theorem cs_12_37 {ad : List Nat} {h : hp} (L : Lay TLx ad h) {δ0 δ : dp} (I : RI ad h.1 δ0 δ) {a : Nat} {v : Int32} : RI ad h.1 δ0 (s_I δ 12 37 a v) := I.sI L (by simpa [b12] using (ti_b v).1) (by simpa [b12] using (ti_b v).2)
theorem cs_12_38 {ad : List Nat} {h : hp} (L : Lay TLx ad h) {δ0 δ : dp} (I : RI ad h.1 δ0 δ) {a : Nat} {v : Int32} (_ : q_K h.1 a = 12) (h1 : 0 ≤ v.toInt) (h2 : v.toInt ≤ 16) : RI ad h.1 δ0 (s_I δ 12 38 a v) := I.sI L (by simpa [b12] using h1) (by simpa [b12] using h2)
theorem cb_12_38 {ad : List Nat} {g : gp} {δ0 δ : dp} (I : RI ad g δ0 δ) {a : Nat} (ka : q_K g a = 12) : 0 ≤ (q_I δ 12 38 a).toInt ∧ (q_I δ 12 38 a).toInt ≤ 16 := by
  have := I.1 38 a ka
  simpa [b12] using this
theorem cs_12_39 {ad : List Nat} {h : hp} (L : Lay TLx ad h) {δ0 δ : dp} (I : RI ad h.1 δ0 δ) {a : Nat} {v : Int32} : RI ad h.1 δ0 (s_I δ 12 39 a v) := I.sI L (by simpa [b12] using (ti_b v).1) (by simpa [b12] using (ti_b v).2)
theorem cs_12_40 {ad : List Nat} {h : hp} (L : Lay TLx ad h) {δ0 δ : dp} (I : RI ad h.1 δ0 δ) {a : Nat} {v : Int32} : RI ad h.1 δ0 (s_I δ 12 40 a v) := I.sI L (by simpa [b12] using (ti_b v).1) (by simpa [b12] using (ti_b v).2)
theorem cs_12_45 {ad : List Nat} {h : hp} (L : Lay TLx ad h) {δ0 δ : dp} (I : RI ad h.1 δ0 δ) {a : Nat} {v : Int32} : RI ad h.1 δ0 (s_I δ 12 45 a v) := I.sI L (by simpa [b12] using (ti_b v).1) (by simpa [b12] using (ti_b v).2)
theorem cs_12_47 {ad : List Nat} {h : hp} (L : Lay TLx ad h) {δ0 δ : dp} (I : RI ad h.1 δ0 δ) {a : Nat} {v : Int32} (_ : q_K h.1 a = 12) (h1 : -1000 ≤ v.toInt) (h2 : v.toInt ≤ 2000) : RI ad h.1 δ0 (s_I δ 12 47 a v) := I.sI L (by simpa [b12] using h1) (by simpa [b12] using h2)
theorem cb_12_47 {ad : List Nat} {g : gp} {δ0 δ : dp} (I : RI ad g δ0 δ) {a : Nat} (ka : q_K g a = 12) : -1000 ≤ (q_I δ 12 47 a).toInt ∧ (q_I δ 12 47 a).toInt ≤ 2000 := by
  have := I.1 47 a ka
  simpa [b12] using this
theorem cs_12_49 {ad : List Nat} {h : hp} (L : Lay TLx ad h) {δ0 δ : dp} (I : RI ad h.1 δ0 δ) {a : Nat} {v : Int32} : RI ad h.1 δ0 (s_I δ 12 49 a v) := I.sI L (by simpa [b12] using (ti_b v).1) (by simpa [b12] using (ti_b v).2)
theorem cs_12_50 {ad : List Nat} {h : hp} (L : Lay TLx ad h) {δ0 δ : dp} (I : RI ad h.1 δ0 δ) {a : Nat} {v : Int32} : RI ad h.1 δ0 (s_I δ 12 50 a v) := I.sI L (by simpa [b12] using (ti_b v).1) (by simpa [b12] using (ti_b v).2)
theorem cs_12_51 {ad : List Nat} {h : hp} (L : Lay TLx ad h) {δ0 δ : dp} (I : RI ad h.1 δ0 δ) {a : Nat} {v : Int32} : RI ad h.1 δ0 (s_I δ 12 51 a v) := I.sI L (by simpa [b12] using (ti_b v).1) (by simpa [b12] using (ti_b v).2)
theorem cs_12_52 {ad : List Nat} {h : hp} (L : Lay TLx ad h) {δ0 δ : dp} (I : RI ad h.1 δ0 δ) {a : Nat} {v : Int32} : RI ad h.1 δ0 (s_I δ 12 52 a v) := I.sI L (by simpa [b12] using (ti_b v).1) (by simpa [b12] using (ti_b v).2)
theorem cs_12_53 {ad : List Nat} {h : hp} (L : Lay TLx ad h) {δ0 δ : dp} (I : RI ad h.1 δ0 δ) {a : Nat} {v : Int32} : RI ad h.1 δ0 (s_I δ 12 53 a v) := I.sI L (by simpa [b12] using (ti_b v).1) (by simpa [b12] using (ti_b v).2)
theorem cs_12_54 {ad : List Nat} {h : hp} (L : Lay TLx ad h) {δ0 δ : dp} (I : RI ad h.1 δ0 δ) {a : Nat} {v : Int32} : RI ad h.1 δ0 (s_I δ 12 54 a v) := I.sI L (by simpa [b12] using (ti_b v).1) (by simpa [b12] using (ti_b v).2)
theorem cs_12_55 {ad : List Nat} {h : hp} (L : Lay TLx ad h) {δ0 δ : dp} (I : RI ad h.1 δ0 δ) {a : Nat} {v : Int32} : RI ad h.1 δ0 (s_I δ 12 55 a v) := I.sI L (by simpa [b12] using (ti_b v).1) (by simpa [b12] using (ti_b v).2)
theorem cs_12_56 {ad : List Nat} {h : hp} (L : Lay TLx ad h) {δ0 δ : dp} (I : RI ad h.1 δ0 δ) {a : Nat} {v : Int32} : RI ad h.1 δ0 (s_I δ 12 56 a v) := I.sI L (by simpa [b12] using (ti_b v).1) (by simpa [b12] using (ti_b v).2)
theorem cs_12_58 {ad : List Nat} {h : hp} (L : Lay TLx ad h) {δ0 δ : dp} (I : RI ad h.1 δ0 δ) {a : Nat} {v : Int32} : RI ad h.1 δ0 (s_I δ 12 58 a v) := I.sI L (by simpa [b12] using (ti_b v).1) (by simpa [b12] using (ti_b v).2)
theorem cs_12_59 {ad : List Nat} {h : hp} (L : Lay TLx ad h) {δ0 δ : dp} (I : RI ad h.1 δ0 δ) {a : Nat} {v : Int32} : RI ad h.1 δ0 (s_I δ 12 59 a v) := I.sI L (by simpa [b12] using (ti_b v).1) (by simpa [b12] using (ti_b v).2)
theorem bo_l {v : Int32} (h : bo v) : 0 ≤ v.toInt ∧ v.toInt ≤ 1 := by
  have := bo_t h
  omega
/-- the byte ahead -/
def hc (ad : List Nat) (δ : dp) (a0 : Nat) : Int := (q_R δ (Ad ad 101) (q_I δ 12 4 a0).toNatClampNeg).toInt
