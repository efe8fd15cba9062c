/-! touches at an empty house, in stages -/
theorem qe_1 {g : gp} {f a : Nat} {x : Int32} {δ : dp} (e1 : q_I δ 3 1 a = 0) : D_X3_firstFrom (f + 1) g a x δ = some (0, δ) := by
  rw [D_X3_firstFrom, bi, e1, L_X3_firstFrom_7, if_pos (by decide)]
theorem qe_2 {g : gp} {f a : Nat} {x : Int32} {δ : dp} (e1 : q_I δ 3 1 a = 0) : D_X3_above (f + 1) g a x δ = some (-1, δ) := by
  rw [D_X3_above, qe_1 e1]
  simp [D_X3_at, J_X3_at_12, J_X3_at_22, e1]
theorem qe_3 {g : gp} {f a : Nat} {x : Int32} {δ : dp} (e1 : q_I δ 3 1 a = 0) : D_X3_below (f + 1) g a x δ = some (-1, δ) := by
  rw [D_X3_below, qe_1 e1]
  simp [D_X3_at, J_X3_at_12, J_X3_at_22]
theorem qe_4 {g : gp} {f a : Nat} {c x : Int32} {δ : dp} (e1 : q_I δ 3 1 a = 0) : D_X3_touchesInRow (f + 1) g a c x δ = some (if c = 0 then 1 else 0, δ) := by
  have H : ∀ y, J_X3_touchesInRow_12 (f + 1) g a c x y δ = some (if c = 0 then 1 else 0, δ) := by
    intro y
    rw [J_X3_touchesInRow_12, bi, e1, L_X3_touchesInRow_25, if_pos (by decide), e1, if_pos (by decide)]
    by_cases c0 : c = 0
    · subst c0
      simp [J_X3_touchesInRow_95, J_X3_touchesInRow_96, J_X3_touchesInRow_123, J_X3_touchesInRow_146, J_X3_touchesInRow_170, e1, bi]
    · by_cases c4 : c = 4
      · subst c4
        simp [J_X3_touchesInRow_95, J_X3_touchesInRow_96, J_X3_touchesInRow_123, J_X3_touchesInRow_146, J_X3_touchesInRow_170, e1, bi]
      · by_cases c1 : c = 1
        · subst c1
          simp [J_X3_touchesInRow_95, J_X3_touchesInRow_96, J_X3_touchesInRow_123, J_X3_touchesInRow_146, J_X3_touchesInRow_170, e1, bi]
        · simp [J_X3_touchesInRow_95, J_X3_touchesInRow_96, J_X3_touchesInRow_123, J_X3_touchesInRow_146, J_X3_touchesInRow_170, e1, bi, c0, c1, c4]
  rw [D_X3_touchesInRow]
  by_cases c3 : c = 3
  · rw [if_pos c3, H]
  · rw [if_neg c3, H]
theorem qe_5 {g : gp} {f a : Nat} {x : Int32} {δ : dp} (e1 : q_I δ 3 1 a = 0) : D_X3_touchesInWords (f + 1) g a 3 x 8 δ = some (if x < 255 then 7 - (x + 1) >>> ((5 : Int32) &&& 31) + 1 else 0, δ) := by
  rw [D_X3_touchesInWords, bi, if_pos rfl, qe_2 e1, Option.bind_some]
  by_cases c : x < 255
  · rw [if_pos (by rw [sh_8]; exact c), if_pos c]
    simp [J_X3_touchesInWords_42, J_X3_touchesInWords_54, D_X3_wordOf, sh_8, sh_8r]
  · rw [if_neg (by rw [sh_8]; exact c), if_neg c]
    rfl
theorem qe_6 {g : gp} {f a : Nat} {x : Int32} {δ : dp} (e1 : q_I δ 3 1 a = 0) : D_X3_touchesInWords (f + 1) g a 4 x 8 δ = some (if 0 < x then (x - 1) >>> ((5 : Int32) &&& 31) + 1 else 0, δ) := by
  rw [D_X3_touchesInWords, bi, if_neg (by decide), if_pos rfl, qe_3 e1, Option.bind_some]
  by_cases c : 0 < x
  · rw [if_pos c, if_pos c]
    simp [J_X3_touchesInWords_93, J_X3_touchesInWords_99, D_X3_wordOf, show (0 : Int32) >>> ((5 : Int32) &&& 31) = 0 by decide]
  · rw [if_neg c, if_neg c]
    rfl
theorem qe_7 {g : gp} {f a : Nat} {c x : Int32} {δ : dp} (h3 : ¬ c = 3) (h4 : ¬ c = 4) : D_X3_touchesInWords f g a c x 8 δ = some (1, δ) := by
  rw [D_X3_touchesInWords, bi, if_neg h3, if_neg h4]
/-! the reference -/
theorem qr_1 {ad : List Nat} {h : hp} (L : Lay TLx ad h) {f hh : Nat} (h4 : hh < 4) {x : Int32} {δ : dp} (f1 : q_R δ (Ad ad 103) hh = 0) : D_X12_place (f + 1) h.1 (Ad ad 99) (Int32.ofNat hh) x δ = some (0, δ) := by
  have e1 := c_n0 (k := hh) (by omega)
  have e2 := c_cl (k := hh) (by omega)
  rw [D_X12_place, fO_99_14 L, Option.bind_some, fN_103 L, e2, if_neg (by rintro (c | c); exact e1 c; omega), bi, f1, L_X12_place_10, if_pos (by decide)]
theorem qr_2 {ad : List Nat} {h : hp} (L : Lay TLx ad h) {f hh : Nat} (h4 : hh < 4) {x y : Int32} {δ : dp} (f1 : q_R δ (Ad ad 103) hh = 0) : D_X12_hasIn (f + 1) h.1 (Ad ad 99) (Int32.ofNat hh) x y δ = some (0, δ) := by
  rw [D_X12_hasIn, qr_1 L h4 f1, Option.bind_some, qr_1 L h4 f1, Option.bind_some, if_pos (show (0 : Int32) ≤ 0 by decide)]
  rfl
theorem qr_3 {ad : List Nat} {h : hp} (L : Lay TLx ad h) {f hh : Nat} (h4 : hh < 4) {c x : Int32} {δ : dp} (f1 : q_R δ (Ad ad 103) hh = 0) : ∀ (j w n : Nat), w ≤ 7 → 7 - w < j → L_X12_bits_46 (f + 1) h.1 (Ad ad 99) (Int32.ofNat hh) c x j 7 (Int32.ofNat w) (Int32.ofNat n) δ = some (Int32.ofNat (n + (7 - w)), δ) := by
  intro j
  induction j with
  | zero => intro w n _ h; omega
  | succ j ih =>
    intro w n h1 h2
    rw [L_X12_bits_46]
    by_cases hw : w = 7
    · subst hw
      rw [if_pos (by decide)]
      rfl
    · rw [if_neg (show ¬ (7 : Int32) ≤ Int32.ofNat w from c_nle (m := 7) (by omega) (by omega))]
      have J : ∀ y, J_X12_bits_72 (f + 1) h.1 (Ad ad 99) (Int32.ofNat hh) c x (L_X12_bits_46 (f + 1) h.1 (Ad ad 99) (Int32.ofNat hh) c x j) y (Int32.ofNat hh) (Ad ad 99) 7 (Int32.ofNat w) (Int32.ofNat n) δ = some (Int32.ofNat (n + (7 - w)), δ) := by
        intro y
        rw [J_X12_bits_72, qr_2 L h4 f1, Option.bind_some, if_pos rfl, bi, bi]
        have IH := ih (w + 1) (n + 1) (by omega) (by omega)
        rw [Int32.ofNat_add w 1, Int32.ofNat_add n 1, show n + 1 + (7 - (w + 1)) = n + (7 - w) by omega] at IH
        exact IH
      by_cases q : Int32.ofNat n = 1
      · rw [if_pos q]; exact J _
      · rw [if_neg q]; exact J _
theorem qr_4 {ad : List Nat} {h : hp} (L : Lay TLx ad h) {f hh : Nat} (h4 : hh < 4) {c x : Int32} {δ : dp} (f1 : q_R δ (Ad ad 103) hh = 0) : ∀ (j w n : Nat), w ≤ 7 → w < j → L_X12_bits_115 (f + 1) h.1 (Ad ad 99) (Int32.ofNat hh) c x j (Int32.ofNat w) (Int32.ofNat n) δ = some (Int32.ofNat (n + w), δ) := by
  intro j
  induction j with
  | zero => intro w n _ h; omega
  | succ j ih =>
    intro w n h1 h2
    rw [L_X12_bits_115]
    by_cases hw : w = 0
    · subst hw
      rw [if_pos (by decide)]
      rfl
    · rw [if_neg (show ¬ Int32.ofNat w ≤ 0 from c_nle (k := 0) (m := w) (by omega) (by omega))]
      have J : ∀ y z, J_X12_bits_145 (f + 1) h.1 (Ad ad 99) (Int32.ofNat hh) c x (L_X12_bits_115 (f + 1) h.1 (Ad ad 99) (Int32.ofNat hh) c x j) y z (Int32.ofNat hh) (Ad ad 99) (Int32.ofNat w) (Int32.ofNat n) δ = some (Int32.ofNat (n + w), δ) := by
        intro y z
        rw [J_X12_bits_145, qr_2 L h4 f1, Option.bind_some, if_pos rfl, bi, bi]
        have IH := ih (w - 1) (n + 1) (by omega) (by omega)
        rw [Int32.ofNat_sub w 1 (by omega), Int32.ofNat_add n 1, show n + 1 + (w - 1) = n + w by omega, Int32.sub_eq_add_neg] at IH
        exact IH
      by_cases q : Int32.ofNat n = 1
      · rw [if_pos q]; exact J _ _
      · rw [if_neg q]; exact J _ _
theorem qr_5 {ad : List Nat} {h : hp} (L : Lay TLx ad h) {f hh w : Nat} (hf : 20 ≤ f) (h4 : hh < 4) {x : Int32} {δ : dp} (f0 : q_I δ 12 10 (Ad ad 99) = 8) (f1 : q_R δ (Ad ad 103) hh = 0) (hw : w < 8) (e : (x + 1) / 32 = Int32.ofNat w) (hx : ¬ x = 255) : D_X12_bits (f + 1) h.1 (Ad ad 99) (Int32.ofNat hh) 3 x δ = some (Int32.ofNat (8 - w), δ) := by
  have a0 : D_X12_all (f + 1) h.1 (Ad ad 99) δ = some (256, δ) := by rw [D_X12_all, f0, sh_8]
  have H := qr_3 L (f := f) h4 (c := 3) (x := x) f1 (f + 1) w 1 (by omega) (by omega)
  rw [D_X12_bits, if_pos (by decide), a0, Option.bind_some, bi, if_pos rfl, a0, Option.bind_some, if_neg (show ¬ x = (256 : Int32) - 1 from hx), bi, e]
  rw [show 1 + (7 - w) = 8 - w by omega] at H
  dsimp only
  rw [show ((256 : Int32) - 1) / 32 = 7 by decide]
  exact H
theorem qr_6 {ad : List Nat} {h : hp} (L : Lay TLx ad h) {f hh w : Nat} (hf : 20 ≤ f) (h4 : hh < 4) {x : Int32} {δ : dp} (f0 : q_I δ 12 10 (Ad ad 99) = 8) (f1 : q_R δ (Ad ad 103) hh = 0) (hw : w < 8) (e : (x - 1) / 32 = Int32.ofNat w) (hx : ¬ x = 0) : D_X12_bits (f + 1) h.1 (Ad ad 99) (Int32.ofNat hh) 4 x δ = some (Int32.ofNat (w + 1), δ) := by
  have a0 : D_X12_all (f + 1) h.1 (Ad ad 99) δ = some (256, δ) := by rw [D_X12_all, f0, sh_8]
  have H := qr_4 L (f := f) h4 (c := 4) (x := x) f1 (f + 1) w 1 (by omega) (by omega)
  rw [D_X12_bits, if_pos (by decide), a0, Option.bind_some, bi, if_neg (by decide), if_neg hx, bi, e]
  rw [show 1 + w = w + 1 by omega] at H
  exact H
theorem qr_7 {ad : List Nat} {h : hp} (L : Lay TLx ad h) {f hh : Nat} (h4 : hh < 4) {c x : Int32} {δ : dp} (f1 : q_R δ (Ad ad 103) hh = 0) : D_X12_sorted (f + 1) h.1 (Ad ad 99) (Int32.ofNat hh) c x δ = some (if c = 0 then 1 else 0, δ) := by
  have e1 := c_n0 (k := hh) (by omega)
  have e2 := c_cl (k := hh) (by omega)
  have e3 : ¬ (Int32.ofNat hh < 0 ∨ 4 ≤ hh) := by rintro (c | c); exact e1 c; omega
  have H : ∀ y, J_X12_sorted_12 (f + 1) h.1 (Ad ad 99) (Int32.ofNat hh) c x y δ = some (if c = 0 then 1 else 0, δ) := by
    intro y
    rw [J_X12_sorted_12, fO_99_14 L, Option.bind_some, fN_103 L, e2, if_neg e3, bi, f1, L_X12_sorted_28, if_pos (by decide)]
    by_cases c0 : c = 0
    · subst c0
      simp [J_X12_sorted_117, J_X12_sorted_152, J_X12_sorted_153, J_X12_sorted_180, J_X12_sorted_206, fO_99_14 L, fN_103 L, e1, e2, e3, show ¬ 4 ≤ hh by omega, f1, bi]
    · by_cases c4 : c = 4
      · subst c4
        simp [J_X12_sorted_117, J_X12_sorted_152, J_X12_sorted_153, J_X12_sorted_180, J_X12_sorted_206, fO_99_14 L, fN_103 L, e1, e2, e3, show ¬ 4 ≤ hh by omega, f1, bi]
      · by_cases c1 : c = 1
        · subst c1
          simp [J_X12_sorted_117, J_X12_sorted_152, J_X12_sorted_153, J_X12_sorted_180, J_X12_sorted_206, fO_99_14 L, fN_103 L, e1, e2, e3, show ¬ 4 ≤ hh by omega, f1, bi]
        · simp [J_X12_sorted_117, J_X12_sorted_152, J_X12_sorted_153, J_X12_sorted_180, J_X12_sorted_206, fO_99_14 L, fN_103 L, e1, e2, e3, show ¬ 4 ≤ hh by omega, f1, bi, c0, c1, c4]
  rw [D_X12_sorted]
  by_cases c3 : c = 3
  · rw [if_pos c3, H]
  · rw [if_neg c3, H]
theorem qr_8 {ad : List Nat} {h : hp} (L : Lay TLx ad h) {f hh : Nat} (h4 : hh < 4) {c x : Int32} {δ : dp} (f1 : q_R δ (Ad ad 103) hh = 0) : D_X12_halves (f + 1) h.1 (Ad ad 99) (Int32.ofNat hh) c x δ = some (1, s_I δ 12 36 (Ad ad 99) 0) := by
  have e1 := c_n0 (k := hh) (by omega)
  have e2 := c_cl (k := hh) (by omega)
  have e3 : ¬ (Int32.ofNat hh < 0 ∨ 4 ≤ hh) := by rintro (c | c); exact e1 c; omega
  have a1 : D_X12_lays (f + 1) h.1 (Ad ad 99) (Int32.ofNat hh) δ = some (s_I δ 12 36 (Ad ad 99) 0) := by
    rw [D_X12_lays, bd, L_X12_lays_7, fO_99_14 L, Option.bind_some, fN_103 L, e2, if_neg e3, qR_sI, f1, if_pos (by decide)]
  have a2 : q_I (s_I δ 12 36 (Ad ad 99) 0) 12 36 (Ad ad 99) = 0 := by simp [qI_sI]
  have a3 : ∀ y, D_X12_touch (f + 1) h.1 (Ad ad 99) c x y 0 0 (s_I δ 12 36 (Ad ad 99) 0) = some (1, s_I δ 12 36 (Ad ad 99) 0) := by
    intro y
    rw [D_X12_touch, E_X12_touch, B_X12_touch]
    by_cases q : y ≤ q_I (s_I δ 12 36 (Ad ad 99) 0) 12 11 (Ad ad 99)
    · rw [if_pos q]; rfl
    · rw [if_neg q, if_pos rfl]; rfl
  rw [D_X12_halves, a1, Option.bind_some, a2, a3, Option.bind_some]
theorem qv_1 {w : Nat} (h : w < 8) : (7 : Int32) - Int32.ofNat w + 1 = Int32.ofNat (8 - w) := by
  rcases (show w = 0 ∨ w = 1 ∨ w = 2 ∨ w = 3 ∨ w = 4 ∨ w = 5 ∨ w = 6 ∨ w = 7 by omega) with rfl | rfl | rfl | rfl | rfl | rfl | rfl | rfl <;> decide
theorem qv_2 {w : Nat} (h : w < 8) : Int32.ofNat w + 1 = Int32.ofNat (w + 1) := (Int32.ofNat_add w 1).symm
theorem qr_9 {ad : List Nat} {h : hp} {f hh : Nat} {δ : dp} (f0 : q_I δ 12 10 (Ad ad 99) = 8) : D_X12_bits (f + 1) h.1 (Ad ad 99) (Int32.ofNat hh) 3 255 δ = some (0, δ) := by
  have a0 : D_X12_all (f + 1) h.1 (Ad ad 99) δ = some (256, δ) := by rw [D_X12_all, f0, sh_8]
  rw [D_X12_bits, if_pos (by decide), a0, Option.bind_some, bi, if_pos rfl, a0, Option.bind_some, if_pos (show (255 : Int32) = 256 - 1 by decide)]
theorem qr_10 {ad : List Nat} {h : hp} {f hh : Nat} {δ : dp} (f0 : q_I δ 12 10 (Ad ad 99) = 8) : D_X12_bits (f + 1) h.1 (Ad ad 99) (Int32.ofNat hh) 4 0 δ = some (0, δ) := by
  have a0 : D_X12_all (f + 1) h.1 (Ad ad 99) δ = some (256, δ) := by rw [D_X12_all, f0, sh_8]
  rw [D_X12_bits, if_pos (by decide), a0, Option.bind_some, bi, if_neg (by decide), if_pos rfl]
