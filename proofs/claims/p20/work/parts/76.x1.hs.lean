section
/-! the reference's houses as sorted rows -/
def hR (ad : List Nat) (δ : dp) (h i : Nat) : Int := (q_R δ (Ad ad 102) (2000 * h + i)).toInt
def hM (ad : List Nat) (δ : dp) (h : Nat) : Int := (q_R δ (Ad ad 103) h).toInt
def hsr (ad : List Nat) (δ : dp) (h : Nat) : Prop := 0 ≤ hM ad δ h ∧ ∀ i j : Nat, i < j → (j : Int) < hM ad δ h → hR ad δ h i < hR ad δ h j
def hpl (ad : List Nat) (δ : dp) (h : Nat) (x : Int32) (p : Nat) : Prop := (p : Int) ≤ hM ad δ h ∧ (∀ i : Nat, i < p → hR ad δ h i < x.toInt) ∧ ∀ i : Nat, p ≤ i → (i : Int) < hM ad δ h → x.toInt ≤ hR ad δ h i
def hmem (ad : List Nat) (δ : dp) (h : Nat) (x : Int32) : Prop := ∃ i : Nat, (i : Int) < hM ad δ h ∧ hR ad δ h i = x.toInt
theorem hpl_u {ad : List Nat} {δ : dp} {h : Nat} {x : Int32} {p q : Nat} (P : hpl ad δ h x p) (Q : hpl ad δ h x q) : p = q := by
  obtain ⟨p1, p2, p3⟩ := P
  obtain ⟨q1, q2, q3⟩ := Q
  rcases (show p < q ∨ p = q ∨ q < p by omega) with h | h | h
  · have := q2 p h
    have := p3 p (Nat.le_refl _) (by omega)
    omega
  · exact h
  · have := p2 q h
    have := q3 q (Nat.le_refl _) (by omega)
    omega
theorem hpl_mem {ad : List Nat} {δ : dp} {h : Nat} {x : Int32} {p : Nat} (S : hsr ad δ h) (P : hpl ad δ h x p) : hmem ad δ h x ↔ (p : Int) < hM ad δ h ∧ hR ad δ h p = x.toInt := by
  constructor
  · rintro ⟨i, h1, h2⟩
    rcases (show i < p ∨ i = p ∨ p < i by omega) with c | c | c
    · have := P.2.1 i c
      omega
    · subst c; exact ⟨h1, h2⟩
    · have := S.2 p i c h1
      have := P.2.2 p (Nat.le_refl _) (by omega)
      omega
  · rintro ⟨h1, h2⟩
    exact ⟨p, h1, h2⟩
theorem ix2 {x1 : Int32} {h : Nat} (hx : x1.toInt = (h : Int)) (hh : h < 4) {m : Int32} {k : Nat} (hm : m.toInt = (k : Int)) (hk : k < 2000) : ((2000 : Int32) * x1 + m).toInt = ((2000 * h + k : Nat) : Int) ∧ ((2000 : Int32) * x1 + m).toNatClampNeg = 2000 * h + k := by
  have t1 := te_mulc (c := 2000) (n := 2000) rfl x1 (by omega) (by omega)
  have t2 := te_add ((2000 : Int32) * x1) m (by omega) (by omega)
  have t3 := ti_tn ((2000 : Int32) * x1 + m)
  omega
theorem fl12_place {ad : List Nat} {h : hp} (L : Lay TLx ad h) {δ0 : dp} {N a0 H : Nat} {x1 x : Int32} (ka : q_K h.1 a0 = 12) (hx : x1.toInt = (H : Int)) (hh : H < 4) {δ : dp} (I : RI ad h.1 δ0 δ) (S : hsr ad δ H) : ∀ (n : Nat) (x3 x4 : Int32), 0 ≤ x3.toInt → x3.toInt ≤ x4.toInt → x4.toInt ≤ hM ad δ H → (∀ i : Nat, (i : Int) < x3.toInt → hR ad δ H i < x.toInt) → (∀ i : Nat, x4.toInt ≤ (i : Int) → (i : Int) < hM ad δ H → x.toInt ≤ hR ad δ H i) → x4.toInt - x3.toInt < (n : Int) → ok (L_X12_place_10 N h.1 a0 x1 x n x3 x4 δ) (fun r => r.2 = δ ∧ ∃ p : Nat, r.1.toInt = (p : Int) ∧ hpl ad δ H x p) := by
  have hB : -1000 ≤ hM ad δ H ∧ hM ad δ H ≤ 2000 := rb_103 L I H
  intro n
  induction n with
  | zero => intro x3 x4 h1 h2 h3 h4 h5 h6; exfalso; omega
  | succ n ih =>
    intro x3 x4 h1 h2 h3 h4 h5 h6
    unfold L_X12_place_10
    obtain ⟨b, ob, _, nb, _⟩ := gO_12_13 L ka
    obtain rfl := gS_12_13 L ka ob
    have e0 : (0 : Int32).toInt = 0 := rfl
    refine ok_ite (fun c => ?_) (fun c => ?_)
    · have c1 := o_le c
      exact ok_some ⟨rfl, x3.toInt.toNat, (show x3.toInt = ((x3.toInt.toNat : Nat) : Int) by omega), by omega, fun i hi => h4 i (by omega), fun i hi hm => h5 i (by omega) hm⟩
    · have c1 := o_nle c
      refine ok_biv (fun m em => ?_)
      have hm : m.toInt = (x3.toInt + x4.toInt) / 2 := by
        rw [em]
        have t := te_add x3 x4 (by omega) (by omega)
        have t2 := ti_div (c := 2) (n := 2) rfl (by decide) (x3 + x4) (by omega)
        omega
      obtain ⟨k, hk⟩ : ∃ k : Nat, m.toInt = (k : Int) := ⟨m.toInt.toNat, by omega⟩
      obtain ⟨i1, i2⟩ := ix2 hx hh hk (by omega)
      refine ok_at ob ?_
      refine ok_gd (fun z => ?_) ?_
      · rcases z with z | z
        · have := o_lt z; omega
        · rw [i2] at z; omega
      rw [i2]
      refine ok_ite (fun z => ?_) (fun z => ?_)
      · have z1 : x.toInt ≤ hR ad δ H k := o_le z
        unfold J_X12_place_53
        refine ih x3 m h1 (by omega) (by omega) h4 (fun i hi hq => ?_) (by omega)
        by_cases e : i = k
        · rw [e]; exact z1
        · have := S.2 k i (by omega) hq
          omega
      · have z1 : hR ad δ H k < x.toInt := o_nle z
        refine ok_biv (fun y ey => ?_)
        have hy : y.toInt = m.toInt + 1 := by rw [ey]; exact (te_addc (c := 1) (n := 1) rfl m (by omega) (by omega)).1
        unfold J_X12_place_53
        refine ih y x4 (by omega) (by omega) h3 (fun i hi => ?_) h5 (by omega)
        by_cases e : i = k
        · rw [e]; exact z1
        · have := S.2 i k (by omega) (by omega)
          omega
theorem tnH {x1 : Int32} {H : Nat} (hx : x1.toInt = (H : Int)) : x1.toNatClampNeg = H := by
  have := ti_tn x1
  omega
theorem f12_place {ad : List Nat} {h : hp} (L : Lay TLx ad h) {δ0 : dp} {N : Nat} (hN : 10000000 ≤ N) {a0 H : Nat} {x1 x : Int32} (ka : q_K h.1 a0 = 12) (hx : x1.toInt = (H : Int)) (hh : H < 4) {δ : dp} (I : RI ad h.1 δ0 δ) (S : hsr ad δ H) : ok (D_X12_place N h.1 a0 x1 x δ) (fun r => r.2 = δ ∧ ∃ p : Nat, r.1.toInt = (p : Int) ∧ hpl ad δ H x p) := by
  have hB : -1000 ≤ hM ad δ H ∧ hM ad δ H ≤ 2000 := rb_103 L I H
  have s0 := S.1
  have e0 : (0 : Int32).toInt = 0 := rfl
  unfold D_X12_place
  obtain ⟨b, ob, _, nb⟩ := gO_12_14 L ka
  obtain rfl := gS_12_14 L ka ob
  refine ok_at ob ?_
  have tn := tnH hx
  refine ok_gd (fun z => ?_) ?_
  · rcases z with z | z
    · have := o_lt z; omega
    · omega
  refine ok_biv (fun m em => ?_)
  have hm : m.toInt = hM ad δ H := by rw [em, tn]; rfl
  exact fl12_place L ka hx hh I S N 0 m (by omega) (by omega) (by omega) (fun i hi => by omega) (fun i h1 h2 => by omega) (by omega)
theorem f12_isThere {ad : List Nat} {h : hp} (L : Lay TLx ad h) {δ0 : dp} {N : Nat} (hN : 10000000 ≤ N) {a0 H : Nat} {x1 x : Int32} (ka : q_K h.1 a0 = 12) (hx : x1.toInt = (H : Int)) (hh : H < 4) {δ : dp} (I : RI ad h.1 δ0 δ) (S : hsr ad δ H) : ok (D_X12_isThere N h.1 a0 x1 x δ) (fun r => r.2 = δ ∧ ((r.1 = 1 ∧ hmem ad δ H x) ∨ (r.1 = 0 ∧ ¬ hmem ad δ H x))) := by
  have hB : -1000 ≤ hM ad δ H ∧ hM ad δ H ≤ 2000 := rb_103 L I H
  have e0 : (0 : Int32).toInt = 0 := rfl
  unfold D_X12_isThere
  refine ok_bind (f12_place L hN ka hx hh I S) (fun r hr => ?_)
  obtain ⟨e, p, hp, P⟩ := hr
  rw [e]
  have tn := tnH hx
  have pm := hpl_mem S P
  have p1 := P.1
  obtain ⟨b, ob, _, nb⟩ := gO_12_14 L ka
  obtain rfl := gS_12_14 L ka ob
  refine ok_at ob ?_
  refine ok_gd (fun z => ?_) ?_
  · rcases z with z | z
    · have := o_lt z; omega
    · omega
  rw [tn]
  refine ok_ite (fun c => ?_) (fun c => ?_)
  · have c1 : hM ad δ H ≤ r.1.toInt := o_le c
    unfold J_X12_isThere_37 J_X12_isThere_38
    refine ok_gp (Or.inl rfl) ?_
    exact ok_some ⟨rfl, Or.inr ⟨rfl, fun m => by have := (pm.mp m).1; omega⟩⟩
  · have c1 : r.1.toInt < hM ad δ H := o_nle c
    obtain ⟨b, ob, _, nb, _⟩ := gO_12_13 L ka
    obtain rfl := gS_12_13 L ka ob
    refine ok_at ob ?_
    obtain ⟨i1, i2⟩ := ix2 hx hh hp (by omega)
    refine ok_gd (fun z => ?_) ?_
    · rcases z with z | z
      · have := o_lt z; omega
      · rw [i2] at z; omega
    rw [i2]
    refine ok_ite (fun z => ?_) (fun z => ?_)
    · unfold J_X12_isThere_38
      refine ok_gp (Or.inr rfl) ?_
      refine ok_some ⟨rfl, Or.inl ⟨rfl, pm.mpr ⟨by omega, ?_⟩⟩⟩
      show (q_R δ (Ad ad 102) (2000 * H + p)).toInt = x.toInt
      rw [z]
    · unfold J_X12_isThere_37 J_X12_isThere_38
      refine ok_gp (Or.inl rfl) ?_
      exact ok_some ⟨rfl, Or.inr ⟨rfl, fun m => z (i_eq (pm.mp m).2)⟩⟩
/-- rows behind a coming, behind a leaving -/
def hin (ad : List Nat) (δ δ1 : dp) (H : Nat) (x : Int32) (p M : Nat) : Prop := (∀ i : Nat, q_R δ1 (Ad ad 102) i = if i = 2000 * H + p then x else if 2000 * H + p < i ∧ i ≤ 2000 * H + M then q_R δ (Ad ad 102) (i - 1) else q_R δ (Ad ad 102) i) ∧ ∀ j : Nat, (q_R δ1 (Ad ad 103) j).toInt = if j = H then (M : Int) + 1 else (q_R δ (Ad ad 103) j).toInt
def hde (ad : List Nat) (δ δ1 : dp) (H : Nat) (p M : Nat) : Prop := (∀ i : Nat, q_R δ1 (Ad ad 102) i = if 2000 * H + p ≤ i ∧ i + 1 < 2000 * H + M then q_R δ (Ad ad 102) (i + 1) else q_R δ (Ad ad 102) i) ∧ ∀ j : Nat, (q_R δ1 (Ad ad 103) j).toInt = if j = H then (M : Int) - 1 else (q_R δ (Ad ad 103) j).toInt
theorem fl12_comes {ad : List Nat} {h : hp} (L : Lay TLx ad h) {N a0 H p M : Nat} {x1 x x3 : Int32} (ka : q_K h.1 a0 = 12) (hx : x1.toInt = (H : Int)) (hh : H < 4) {δ : dp} (hM1 : hM ad δ H = (M : Int)) (hM2 : M < 2000) (h3 : x3.toInt = ((2000 * H + p : Nat) : Int)) (hp : p ≤ M) : ∀ (n k : Nat) (x4 : Int32) (δ1 : dp), x4.toInt = ((2000 * H + k : Nat) : Int) → p ≤ k → k ≤ M → (∀ i : Nat, q_R δ1 (Ad ad 102) i = if 2000 * H + k < i ∧ i ≤ 2000 * H + M then q_R δ (Ad ad 102) (i - 1) else q_R δ (Ad ad 102) i) → q_R δ1 (Ad ad 103) = q_R δ (Ad ad 103) → k - p < n → ok (L_X12_comes_27 N h.1 a0 x1 x n x3 x4 δ1) (fun r => hin ad δ r H x p M) := by
  intro n
  induction n with
  | zero => intro k x4 δ1 h4 h5 h6 h7 h8 h9; exfalso; omega
  | succ n ih =>
    intro k x4 δ1 h4 h5 h6 h7 h8 h9
    have e0 : (0 : Int32).toInt = 0 := rfl
    have tn := tnH hx
    have t3 := ti_tn x3
    have t4 := ti_tn x4
    unfold L_X12_comes_27
    obtain ⟨b, ob, _, nb, _⟩ := gO_12_13 L ka
    obtain rfl := gS_12_13 L ka ob
    obtain ⟨b, om, _, nm⟩ := gO_12_14 L ka
    obtain rfl := gS_12_14 L ka om
    refine ok_ite (fun c => ?_) (fun c => ?_)
    · have c1 := o_le c
      obtain rfl : k = p := by omega
      refine ok_at ob ?_
      refine ok_gd (fun z => ?_) ?_
      · rcases z with z | z
        · have := o_lt z; omega
        · omega
      refine ok_bdv (fun d1 e1 => ?_)
      refine ok_at om ?_
      refine ok_gd (fun z => ?_) ?_
      · rcases z with z | z
        · have := o_lt z; omega
        · omega
      refine ok_gd (fun z => ?_) ?_
      · rcases z with z | z
        · have := o_lt z; omega
        · omega
      refine ok_bdv (fun d2 e2 => ?_)
      have hn : Ad ad 103 ≠ Ad ad 102 := ad_ne L (by decide) (by decide) (by decide)
      have g1 : q_R d1 (Ad ad 103) = q_R δ (Ad ad 103) := by rw [e1, rR_o hn, h8]
      refine ok_some ⟨fun i => ?_, fun j => ?_⟩
      · rw [e2, rR_o hn.symm, e1, qR_sR]
        by_cases c3 : i = 2000 * H + k
        · rw [if_pos ⟨rfl, by omega⟩, if_pos c3]
        · rw [if_neg (fun z => c3 (by omega)), if_neg c3, h7]
      · rw [e2, qR_sR, tn]
        by_cases c3 : j = H
        · rw [if_pos ⟨rfl, c3⟩, if_pos c3, g1]
          have hv : (q_R δ (Ad ad 103) H).toInt = (M : Int) := hM1
          have := te_addc (c := 1) (n := 1) rfl (q_R δ (Ad ad 103) H) (by omega) (by omega)
          omega
        · rw [if_neg (fun z => c3 z.2), if_neg c3, g1]
    · have c1 := o_nle c
      refine ok_at ob ?_
      refine ok_at ob ?_
      have t5 := te_subc (c := 1) (n := 1) rfl x4 (by omega) (by omega)
      have t6 := ti_tn (x4 - 1)
      refine ok_gd (fun z => ?_) ?_
      · rcases z with z | z
        · have := o_lt z; omega
        · omega
      refine ok_gd (fun z => ?_) ?_
      · rcases z with z | z
        · have := o_lt z; omega
        · omega
      refine ok_bdv (fun d1 e1 => ?_)
      refine ok_biv (fun y ey => ?_)
      have hy : y.toInt = x4.toInt + -1 := by rw [ey]; exact (te_addc (c := -1) (n := -1) (by decide) x4 (by omega) (by omega)).1
      refine ih (k - 1) y d1 (by omega) (by omega) (by omega) (fun i => ?_) ?_ (by omega)
      · rw [e1, qR_sR]
        by_cases c3 : i = 2000 * H + k
        · rw [if_pos ⟨rfl, by omega⟩, if_pos (by omega), h7, if_neg (by omega)]
          congr 1
          omega
        · rw [if_neg (fun z => c3 (by omega)), h7]
          by_cases c4 : 2000 * H + k < i ∧ i ≤ 2000 * H + M
          · rw [if_pos c4, if_pos (by omega)]
          · rw [if_neg c4, if_neg (by omega)]
      · rw [e1, rR_o (ad_ne L (by decide) (by decide) (by decide)), h8]
theorem f12_comes {ad : List Nat} {h : hp} (L : Lay TLx ad h) {δ0 : dp} {N : Nat} (hN : 10000000 ≤ N) {a0 H M : Nat} {x1 x : Int32} (ka : q_K h.1 a0 = 12) (hx : x1.toInt = (H : Int)) (hh : H < 4) {δ : dp} (I : RI ad h.1 δ0 δ) (S : hsr ad δ H) (hM1 : hM ad δ H = (M : Int)) (hM2 : M < 2000) : ok (D_X12_comes N h.1 a0 x1 x δ) (fun r => ∃ p, hpl ad δ H x p ∧ hin ad δ r H x p M) := by
  have e0 : (0 : Int32).toInt = 0 := rfl
  unfold D_X12_comes
  refine ok_bind (f12_place L hN ka hx hh I S) (fun r hr => ?_)
  obtain ⟨e, p, hp, P⟩ := hr
  rw [e]
  have tn := tnH hx
  have p1 := P.1
  have hp2 : p ≤ M := by omega
  obtain ⟨i1, i2⟩ := ix2 hx hh hp (by omega)
  refine ok_biv (fun q eq => ?_)
  obtain ⟨b, om, _, nm⟩ := gO_12_14 L ka
  obtain rfl := gS_12_14 L ka om
  refine ok_at om ?_
  refine ok_gd (fun z => ?_) ?_
  · rcases z with z | z
    · have := o_lt z; omega
    · omega
  rw [tn]
  refine ok_biv (fun k ek => ?_)
  obtain ⟨j1, j2⟩ := ix2 hx hh (m := q_R δ (Ad ad 103) H) (k := M) hM1 hM2
  refine ok_mono (fl12_comes L ka hx hh hM1 hM2 (by rw [eq]; exact i1) hp2 N M k δ (by rw [ek]; exact j1) hp2 (Nat.le_refl _) (fun i => by rw [if_neg (by omega)]) rfl (by omega)) (fun r h => ⟨p, P, h⟩)
theorem fl12_leaves {ad : List Nat} {h : hp} (L : Lay TLx ad h) {N a0 H p M : Nat} {x1 x : Int32} (ka : q_K h.1 a0 = 12) (hx : x1.toInt = (H : Int)) (hh : H < 4) {δ : dp} (hM2 : M ≤ 2000) (hM0 : 1 ≤ M) : ∀ (n k : Nat) (x3 : Int32) (δ1 : dp), x3.toInt = ((2000 * H + k : Nat) : Int) → p ≤ k → k < M → (∀ i : Nat, q_R δ1 (Ad ad 102) i = if 2000 * H + p ≤ i ∧ i < 2000 * H + k then q_R δ (Ad ad 102) (i + 1) else q_R δ (Ad ad 102) i) → (∀ j : Nat, (q_R δ1 (Ad ad 103) j).toInt = if j = H then (M : Int) - 1 else (q_R δ (Ad ad 103) j).toInt) → M - k < n → ok (L_X12_leaves_23 N h.1 a0 x1 x n x3 δ1) (fun r => hde ad δ r H p M) := by
  intro n
  induction n with
  | zero => intro k x4 δ1 h4 h5 h6 h7 h8 h9; exfalso; omega
  | succ n ih =>
    intro k x3 δ1 h4 h5 h6 h7 h8 h9
    have e0 : (0 : Int32).toInt = 0 := rfl
    have tn := tnH hx
    have t3 := ti_tn x3
    unfold L_X12_leaves_23
    obtain ⟨b, ob, _, nb, _⟩ := gO_12_13 L ka
    obtain rfl := gS_12_13 L ka ob
    obtain ⟨b, om, _, nm⟩ := gO_12_14 L ka
    obtain rfl := gS_12_14 L ka om
    refine ok_at om ?_
    refine ok_gd (fun z => ?_) ?_
    · rcases z with z | z
      · have := o_lt z; omega
      · omega
    rw [tn]
    have hv : (q_R δ1 (Ad ad 103) H).toInt = ((M - 1 : Nat) : Int) := by
      rw [h8, if_pos rfl]; omega
    obtain ⟨j1, j2⟩ := ix2 hx hh hv (by omega)
    refine ok_ite (fun c => ?_) (fun c => ?_)
    · have c1 := o_le c
      refine ok_some ⟨fun i => ?_, h8⟩
      rw [h7]
      by_cases c3 : 2000 * H + p ≤ i ∧ i < 2000 * H + k
      · rw [if_pos c3, if_pos (by omega)]
      · rw [if_neg c3, if_neg (by omega)]
    · have c1 := o_nle c
      refine ok_at ob ?_
      refine ok_at ob ?_
      have t5 := te_addc (c := 1) (n := 1) rfl x3 (by omega) (by omega)
      have t6 := ti_tn (x3 + 1)
      refine ok_gd (fun z => ?_) ?_
      · rcases z with z | z
        · have := o_lt z; omega
        · omega
      refine ok_gd (fun z => ?_) ?_
      · rcases z with z | z
        · have := o_lt z; omega
        · omega
      refine ok_bdv (fun d1 e1 => ?_)
      refine ok_biv (fun y ey => ?_)
      have hy : y.toInt = x3.toInt + 1 := by rw [ey]; exact t5.1
      refine ih (k + 1) y d1 (by omega) (by omega) (by omega) (fun i => ?_) (fun j => ?_) (by omega)
      · rw [e1, qR_sR]
        by_cases c3 : i = 2000 * H + k
        · rw [if_pos ⟨rfl, by omega⟩, if_pos (by omega), h7, if_neg (by omega)]
          congr 1
          omega
        · rw [if_neg (fun z => c3 (by omega)), h7]
          by_cases c4 : 2000 * H + p ≤ i ∧ i < 2000 * H + k
          · rw [if_pos c4, if_pos (by omega)]
          · rw [if_neg c4, if_neg (by omega)]
      · rw [e1, rR_o (ad_ne L (by decide) (by decide) (by decide)), h8]
theorem f12_leaves {ad : List Nat} {h : hp} (L : Lay TLx ad h) {δ0 : dp} {N : Nat} (hN : 10000000 ≤ N) {a0 H M : Nat} {x1 x : Int32} (ka : q_K h.1 a0 = 12) (hx : x1.toInt = (H : Int)) (hh : H < 4) {δ : dp} (I : RI ad h.1 δ0 δ) (S : hsr ad δ H) (hM1 : hM ad δ H = (M : Int)) (mm : hmem ad δ H x) : ok (D_X12_leaves N h.1 a0 x1 x δ) (fun r => ∃ p : Nat, p < M ∧ hR ad δ H p = x.toInt ∧ hde ad δ r H p M) := by
  have hB : -1000 ≤ hM ad δ H ∧ hM ad δ H ≤ 2000 := rb_103 L I H
  have e0 : (0 : Int32).toInt = 0 := rfl
  have tn := tnH hx
  obtain ⟨p, p1, p2⟩ := mm
  unfold D_X12_leaves
  obtain ⟨b, om, _, nm⟩ := gO_12_14 L ka
  obtain rfl := gS_12_14 L ka om
  refine ok_at om ?_
  refine ok_gd (fun z => ?_) ?_
  · rcases z with z | z
    · have := o_lt z; omega
    · omega
  refine ok_gd (fun z => ?_) ?_
  · rcases z with z | z
    · have := o_lt z; omega
    · omega
  refine ok_bdv (fun d1 e1 => ?_)
  have hv : (q_R δ (Ad ad 103) H).toInt = (M : Int) := hM1
  have ts := te_subc (c := 1) (n := 1) rfl (q_R δ (Ad ad 103) H) (by omega) (by omega)
  have I1 : RI ad h.1 δ0 d1 := by rw [e1, tn]; exact cr_103 L I (by omega) (by omega)
  have g8 : ∀ j : Nat, (q_R d1 (Ad ad 103) j).toInt = if j = H then (M : Int) - 1 else (q_R δ (Ad ad 103) j).toInt := fun j => by
    rw [e1, qR_sR, tn]
    by_cases c3 : j = H
    · rw [if_pos ⟨rfl, c3⟩, if_pos c3, ts.1]; omega
    · rw [if_neg (fun z => c3 z.2), if_neg c3]
  have g7 : q_R d1 (Ad ad 102) = q_R δ (Ad ad 102) := by rw [e1, rR_o (ad_ne L (by decide) (by decide) (by decide))]
  have gR : ∀ i, hR ad d1 H i = hR ad δ H i := fun i => by unfold hR; rw [g7]
  have gM : hM ad d1 H = (M : Int) - 1 := by
    have := g8 H
    rw [if_pos rfl] at this
    exact this
  have S1 : hsr ad d1 H := ⟨by omega, fun i j h1 h2 => by rw [gR, gR]; exact S.2 i j h1 (by omega)⟩
  refine ok_bind (f12_place L hN ka hx hh I1 S1) (fun r hr => ?_)
  obtain ⟨e, q, hq, Q⟩ := hr
  rw [e]
  obtain rfl : q = p := by
    have q1 := Q.1
    rcases (show q < p ∨ q = p ∨ p < q by omega) with c | c | c
    · have := Q.2.2 q (Nat.le_refl _) (by omega)
      rw [gR] at this
      have := S.2 q p c p1
      omega
    · exact c
    · have := Q.2.1 p c
      rw [gR] at this
      omega
  have q1 := Q.1
  obtain ⟨i1, i2⟩ := ix2 hx hh hq (by omega)
  refine ok_biv (fun k ek => ?_)
  refine ok_mono (fl12_leaves (p := q) L ka hx hh (by omega) (by omega) N q k d1 (by rw [ek]; exact i1) (Nat.le_refl _) (by omega) (fun i => by rw [if_neg (by omega), g7]) g8 (by omega)) (fun r h => ⟨q, by omega, p2, h⟩)
/-- what a coming and a leaving do to the numbers held -/
theorem hin_s {ad : List Nat} {δ δ1 : dp} {H M p : Nat} {x : Int32} (S : hsr ad δ H) (hM1 : hM ad δ H = (M : Int)) (hM2 : M < 2000) (P : hpl ad δ H x p) (nm : ¬ hmem ad δ H x) (D : hin ad δ δ1 H x p M) : hsr ad δ1 H ∧ (∀ y, hmem ad δ H y → hmem ad δ1 H y) ∧ hmem ad δ1 H x ∧ ∀ y, hmem ad δ1 H y → hmem ad δ H y ∨ y = x := by
  have m1 : hM ad δ1 H = (M : Int) + 1 := by
    have := D.2 H
    rw [if_pos rfl] at this
    exact this
  have p1 := P.1
  have r1 : ∀ i : Nat, i ≤ M → hR ad δ1 H i = if i < p then hR ad δ H i else if i = p then x.toInt else hR ad δ H (i - 1) := fun i hi => by
    unfold hR
    rw [D.1]
    by_cases c : i < p
    · rw [if_neg (by omega), if_neg (by omega), if_pos c]
    · rw [if_neg c]
      by_cases c2 : i = p
      · rw [if_pos (by omega), if_pos c2]
      · rw [if_neg (by omega), if_neg c2, if_pos (by omega), show 2000 * H + i - 1 = 2000 * H + (i - 1) by omega]
  have pn := fun z => nm ((hpl_mem S P).mpr z)
  have gt : ∀ i : Nat, p ≤ i → (i : Int) < hM ad δ H → x.toInt < hR ad δ H i := fun i h1 h2 => by
    have a1 := P.2.2 p (Nat.le_refl _) (by omega)
    have a2 : hR ad δ H p ≠ x.toInt := fun z => pn ⟨by omega, z⟩
    by_cases c : p = i
    · rw [← c]; omega
    · have := S.2 p i (by omega) h2
      omega
  refine ⟨⟨by omega, fun i j hij hj => ?_⟩, fun y hy => ?_, ⟨p, by omega, by rw [r1 p (by omega), if_neg (by omega), if_pos rfl]⟩, fun y hy => ?_⟩
  · rw [r1 i (by omega), r1 j (by omega)]
    by_cases c1 : j < p
    · rw [if_pos c1, if_pos (by omega)]; exact S.2 i j hij (by omega)
    · rw [if_neg c1]
      by_cases c2 : j = p
      · rw [if_pos c2, if_pos (by omega)]; exact P.2.1 i (by omega)
      · rw [if_neg c2]
        by_cases c4 : i < p
        · rw [if_pos c4]
          have := P.2.1 i c4
          have := gt (j - 1) (by omega) (by omega)
          omega
        · rw [if_neg c4]
          by_cases c5 : i = p
          · rw [if_pos c5]; exact gt (j - 1) (by omega) (by omega)
          · rw [if_neg c5]; exact S.2 (i - 1) (j - 1) (by omega) (by omega)
  · obtain ⟨i, h1, h2⟩ := hy
    by_cases c : i < p
    · exact ⟨i, by omega, by rw [r1 i (by omega), if_pos c]; exact h2⟩
    · exact ⟨i + 1, by omega, by rw [r1 (i + 1) (by omega), if_neg (by omega), if_neg (by omega)]; exact h2⟩
  · obtain ⟨i, h1, h2⟩ := hy
    rw [r1 i (by omega)] at h2
    by_cases c : i < p
    · rw [if_pos c] at h2; exact Or.inl ⟨i, by omega, h2⟩
    · rw [if_neg c] at h2
      by_cases c2 : i = p
      · rw [if_pos c2] at h2; exact Or.inr (i_eq h2.symm)
      · rw [if_neg c2] at h2; exact Or.inl ⟨i - 1, by omega, h2⟩
theorem hde_s {ad : List Nat} {δ δ1 : dp} {H M p : Nat} (S : hsr ad δ H) (hM1 : hM ad δ H = (M : Int)) (hM2 : M ≤ 2000) (hp : p < M) (D : hde ad δ δ1 H p M) : hsr ad δ1 H ∧ ∀ y, hmem ad δ1 H y → hmem ad δ H y := by
  have m1 : hM ad δ1 H = (M : Int) - 1 := by
    have := D.2 H
    rw [if_pos rfl] at this
    exact this
  have r1 : ∀ i : Nat, i + 1 < M → hR ad δ1 H i = if i < p then hR ad δ H i else hR ad δ H (i + 1) := fun i hi => by
    unfold hR
    rw [D.1]
    by_cases c : i < p
    · rw [if_neg (by omega), if_pos c]
    · rw [if_pos (by omega), if_neg c, show 2000 * H + i + 1 = 2000 * H + (i + 1) by omega]
  refine ⟨⟨by omega, fun i j hij hj => ?_⟩, fun y hy => ?_⟩
  · rw [r1 i (by omega), r1 j (by omega)]
    by_cases c1 : j < p
    · rw [if_pos c1, if_pos (by omega)]; exact S.2 i j hij (by omega)
    · rw [if_neg c1]
      by_cases c2 : i < p
      · rw [if_pos c2]; exact S.2 i (j + 1) (by omega) (by omega)
      · rw [if_neg c2]; exact S.2 (i + 1) (j + 1) (by omega) (by omega)
  · obtain ⟨i, h1, h2⟩ := hy
    rw [r1 i (by omega)] at h2
    by_cases c : i < p
    · rw [if_pos c] at h2; exact ⟨i, by omega, h2⟩
    · rw [if_neg c] at h2; exact ⟨i + 1, by omega, h2⟩
/-- a number that the SHAPE has -/
def rg (a0 : Nat) (δ : dp) (y : Int32) : Prop := 0 ≤ y.toInt ∧ y.toInt < ((1 : Int32) <<< ((q_I δ 12 10 a0) &&& 31)).toInt
theorem rg_k {a0 : Nat} {δ δ1 : dp} (e : q_I δ1 12 10 a0 = q_I δ 12 10 a0) {y : Int32} : rg a0 δ1 y ↔ rg a0 δ y := by unfold rg; rw [e]
/-- a house in order: sorted, of the SHAPE's numbers -/
def hok (ad : List Nat) (a0 : Nat) (δ : dp) (K : Nat) : Prop := hsr ad δ K ∧ ∀ y, hmem ad δ K y → rg a0 δ y
theorem f12_numberAt {ad : List Nat} {h : hp} (L : Lay TLx ad h) {δ0 : dp} {N : Nat} (hN : 10000000 ≤ N) {a0 H k : Nat} {x1 x2 : Int32} (ka : q_K h.1 a0 = 12) (hx : x1.toInt = (H : Int)) (hh : H < 4) (h2 : x2.toInt = (k : Int)) {δ : dp} (I : RI ad h.1 δ0 δ) (hk : (k : Int) < hM ad δ H) : ok (D_X12_numberAt N h.1 a0 x1 x2 δ) (fun r => r.2 = δ ∧ r.1 = q_R δ (Ad ad 102) (2000 * H + k)) := by
  have hB : -1000 ≤ hM ad δ H ∧ hM ad δ H ≤ 2000 := rb_103 L I H
  have e0 : (0 : Int32).toInt = 0 := rfl
  have tn := tnH hx
  have vM : (q_R δ (Ad ad 103) H).toInt = hM ad δ H := rfl
  unfold D_X12_numberAt
  obtain ⟨b, om, _, nm⟩ := gO_12_14 L ka
  obtain rfl := gS_12_14 L ka om
  obtain ⟨b, ob, _, nb, _⟩ := gO_12_13 L ka
  obtain rfl := gS_12_13 L ka ob
  refine ok_at om ?_
  refine ok_gd (fun z => ?_) ?_
  · rcases z with z | z
    · have := o_lt z; omega
    · omega
  rw [tn]
  have t1 := te_subc (c := 1) (n := 1) rfl (q_R δ (Ad ad 103) H) (by omega) (by omega)
  refine ok_bind (k_X12_within L hN (x0 := x2) (x1 := 0) (x2 := q_R δ (Ad ad 103) H - 1) I) (fun r hr => ?_)
  obtain ⟨e, b, _, g⟩ := hr
  rw [e]
  have nb2 := bo_l b
  refine ok_ite (fun c => ?_) (fun c => ?_)
  · have c1 : r.1.toInt = 0 := o_eq c
    have g1 := g c1
    rw [e0] at g1
    exfalso
    rcases g1 with g1 | g1 <;> omega
  · refine ok_at ob ?_
    obtain ⟨i1, i2⟩ := ix2 hx hh h2 (by omega)
    refine ok_gd (fun z => ?_) ?_
    · rcases z with z | z
      · have := o_lt z; omega
      · rw [i2] at z; omega
    rw [i2]
    unfold J_X12_numberAt_32
    exact ok_some ⟨rfl, rfl⟩
end
section
/-! only one house of the reference changes -/
def sgk (ad : List Nat) (H : Nat) (δ δ1 : dp) : Prop := (∀ i : Nat, (i < 2000 * H ∨ 2000 * H + 2000 ≤ i) → q_R δ1 (Ad ad 102) i = q_R δ (Ad ad 102) i) ∧ ∀ j : Nat, j ≠ H → q_R δ1 (Ad ad 103) j = q_R δ (Ad ad 103) j
theorem sgk_r {ad : List Nat} {H : Nat} {δ : dp} : sgk ad H δ δ := ⟨fun _ _ => rfl, fun _ _ => rfl⟩
theorem sgk_t {ad : List Nat} {H : Nat} {δ δ1 δ2 : dp} (h : sgk ad H δ δ1) (k : sgk ad H δ1 δ2) : sgk ad H δ δ2 := ⟨fun i hi => (k.1 i hi).trans (h.1 i hi), fun j hj => (k.2 j hj).trans (h.2 j hj)⟩
theorem sgk_k {ad : List Nat} {H : Nat} {δ δ1 : dp} (h2 : q_R δ1 (Ad ad 102) = q_R δ (Ad ad 102)) (h3 : q_R δ1 (Ad ad 103) = q_R δ (Ad ad 103)) : sgk ad H δ δ1 := ⟨fun i _ => by rw [h2], fun j _ => by rw [h3]⟩
theorem sgk_2 {ad : List Nat} {h : hp} (L : Lay TLx ad h) {H i : Nat} {v : Int32} {δ : dp} (h1 : 2000 * H ≤ i) (h2 : i < 2000 * H + 2000) : sgk ad H δ (s_R δ (Ad ad 102) i v) := ⟨fun j hj => by rw [qR_sR, if_neg (fun z => by omega)], fun j _ => by rw [rR_o (ad_ne L (by decide) (by decide) (by decide))]⟩
theorem sgk_3 {ad : List Nat} {h : hp} (L : Lay TLx ad h) {H : Nat} {v : Int32} {δ : dp} : sgk ad H δ (s_R δ (Ad ad 103) H v) := ⟨fun j _ => by rw [rR_o (ad_ne L (by decide) (by decide) (by decide))], fun j hj => by rw [qR_sR, if_neg (fun z => hj z.2)]⟩
theorem sgk_o {ad : List Nat} {H b i : Nat} {v : Int32} {δ : dp} (h2 : Ad ad 102 ≠ b) (h3 : Ad ad 103 ≠ b) : sgk ad H δ (s_R δ b i v) := ⟨fun j _ => by rw [rR_o h2], fun j _ => by rw [rR_o h3]⟩

set_option maxHeartbeats 4000000 in
theorem gl_X12_comes_27 {ad : List Nat} {h : hp} (L : Lay TLx ad h) {δ0 : dp} {N : Nat} (hN : 10000000 ≤ N) {a0 : Nat} {x1 : Int32} {x2 : Int32} (k_a0 : q_K h.1 a0 = 12) : ∀ (n : Nat) (x3v : Int32) (x4v : Int32) (δ : dp), RI ad h.1 δ0 δ → 0 ≤ (x1).toInt → (x1).toInt ≤ 3 → 2000 * (x1).toInt ≤ (x3v).toInt → (x3v).toInt ≤ 2000 * (x1).toInt + 1999 → (x4v).toInt ≤ 2000 * (x1).toInt + 1999 → (x3v).toInt ≤ (x4v).toInt + 1000 → (q_R δ (Ad ad 103) (x1).toNatClampNeg).toInt < 2000 → (x4v).toInt - (x3v).toInt + 1000 < (n : Int) → ok (L_X12_comes_27 N h.1 a0 x1 x2 n x3v x4v δ) (fun r => RI ad h.1 δ0 r ∧ (kp [] δ r ∧ q_V r = q_V δ ∧ kr ad [102, 103] δ r ∧ sgk ad x1.toNatClampNeg δ r) ∧ (q_R r (Ad ad 103) (x1).toNatClampNeg).toInt = (q_R δ (Ad ad 103) (x1).toNatClampNeg).toInt + 1) := by
  intro n
  induction n with
  | zero =>
    intro x3v x4v δ I j0 j1 j2 j3 j4 j5 j6 hm
    have f1 := ti_b x1
    have f2 := ti_b x3v
    have f3 := ti_b x4v
    have t4 := ti_tn x1
    have f5 := rb_103 L I (x1).toNatClampNeg
    exfalso; omega
  | succ n ih =>
    intro x3v x4v δ I j0 j1 j2 j3 j4 j5 j6 hm
    unfold L_X12_comes_27
    have f1 := ti_b x1
    have f2 := ti_b x3v
    have f3 := ti_b x4v
    have t4 := ti_tn x1
    have f5 := rb_103 L I (x1).toNatClampNeg
    refine ok_ite (fun h6 => ?_) (fun h6 => ?_)
    · have c7 : x4v.toInt ≤ x3v.toInt := o_le h6
      obtain ⟨b8, o9, k10, n11, w12⟩ := gO_12_13 L k_a0
      obtain rfl := gS_12_13 L k_a0 o9
      refine ok_at o9 ?_
      have t13 := ti_tn x3v
      refine ok_gd (fun hc14 => ?_) ?_
      · rcases hc14 with hc14 | hc14
        · have c15 : x3v.toInt < (0 : Int) := o_lt hc14
          omega
        · omega
      refine ok_bdv (fun d16 e17 => ?_)
      have i18 : RI ad h.1 δ0 d16 := by rw [e17]; exact RI.sR L I w12
      have u19 := kp_N kp_r (show q_I d16 = q_I δ by rw [e17]; rfl)
      have v20 : q_V d16 = q_V δ := ((show q_V d16 = q_V δ by rw [e17]; rfl)).trans rfl
      have v21 := kr_s L (by decide) (kr_r (ad := ad)) e17
      have t22 := ti_tn x1
      have v23 : sgk ad x1.toNatClampNeg δ d16 := sgk_t sgk_r ((show sgk ad x1.toNatClampNeg δ d16 by rw [e17]; exact sgk_2 L (by omega) (by omega)))
      obtain ⟨b24, o25, k26, n27⟩ := gO_12_14 L k_a0
      obtain rfl := gS_12_14 L k_a0 o25
      refine ok_at o25 ?_
      refine ok_gd (fun hc28 => ?_) ?_
      · rcases hc28 with hc28 | hc28
        · have c29 : x1.toInt < (0 : Int) := o_lt hc28
          omega
        · omega
      refine ok_gd (fun hc30 => ?_) ?_
      · rcases hc30 with hc30 | hc30
        · have c31 : x1.toInt < (0 : Int) := o_lt hc30
          omega
        · omega
      have f35 : (q_R d16 (Ad ad 103) x1.toNatClampNeg).toInt = (q_R δ (Ad ad 103) x1.toNatClampNeg).toInt := congrArg Int32.toInt (show q_R d16 (Ad ad 103) x1.toNatClampNeg = _ by rw [e17, rR_o (ad_ne L (by decide) (by decide) (by decide))])
      have f36 := rb_103 L I x1.toNatClampNeg
      have f37 := rb_103 L i18 x1.toNatClampNeg
      first | (have q39 := te_addc (c := 1) (n := 1) rfl (q_R d16 (Ad ad 103) x1.toNatClampNeg) (by omega) (by omega); obtain ⟨f40, f41, f42⟩ := q39) | (obtain ⟨q39, f40, f41, f42⟩ := ti_addc (c := 1) (n := 1) rfl (q_R d16 (Ad ad 103) x1.toNatClampNeg))
      refine ok_bdv (fun d32 e33 => ?_)
      have i34 : RI ad h.1 δ0 d32 := by rw [e33]; exact cr_103 L i18 (show -1000 ≤ ((q_R d16 (Ad ad 103) x1.toNatClampNeg) + (1 : Int32)).toInt by omega) (show ((q_R d16 (Ad ad 103) x1.toNatClampNeg) + (1 : Int32)).toInt ≤ 2000 by omega)
      have u43 := kp_N u19 (show q_I d32 = q_I d16 by rw [e33]; rfl)
      have v44 : q_V d32 = q_V δ := ((show q_V d32 = q_V d16 by rw [e33]; rfl)).trans v20
      have v45 := kr_s L (by decide) v21 e33
      have v46 : sgk ad x1.toNatClampNeg δ d32 := sgk_t v23 ((show sgk ad x1.toNatClampNeg d16 d32 by rw [e33]; exact sgk_3 L))
      have f47 : (q_R d32 (Ad ad 103) (x1).toNatClampNeg).toInt = ((q_R d16 (Ad ad 103) x1.toNatClampNeg) + (1 : Int32)).toInt := congrArg Int32.toInt (show q_R d32 (Ad ad 103) (x1).toNatClampNeg = ((q_R d16 (Ad ad 103) x1.toNatClampNeg) + (1 : Int32)) by rw [e33, qR_sR, if_pos ⟨rfl, rfl⟩])
      have f48 := rb_103 L i34 (x1).toNatClampNeg
      exact ok_some (show RI ad h.1 δ0 d32 ∧ (kp [] δ d32 ∧ q_V d32 = q_V δ ∧ kr ad [102, 103] δ d32 ∧ sgk ad x1.toNatClampNeg δ d32) ∧ (q_R d32 (Ad ad 103) (x1).toNatClampNeg).toInt = (q_R δ (Ad ad 103) (x1).toNatClampNeg).toInt + 1 from ⟨i34, ⟨kp_w (by decide) u43, v44, kr_w (by decide) v45, v46⟩, by first | with_reducible assumption | omega⟩)
    · have c49 : x3v.toInt < x4v.toInt := o_nle h6
      obtain ⟨b50, o51, k52, n53, w54⟩ := gO_12_13 L k_a0
      obtain rfl := gS_12_13 L k_a0 o51
      refine ok_at o51 ?_
      refine ok_at o51 ?_
      first | (have q56 := te_subc (c := 1) (n := 1) rfl x4v (by omega) (by omega); obtain ⟨f57, f58, f59⟩ := q56) | (obtain ⟨q56, f57, f58, f59⟩ := ti_subc (c := 1) (n := 1) rfl x4v)
      have t60 := ti_tn (x4v - (1 : Int32))
      refine ok_gd (fun hc61 => ?_) ?_
      · rcases hc61 with hc61 | hc61
        · have c62 : (x4v - (1 : Int32)).toInt < (0 : Int) := o_lt hc61
          omega
        · omega
      have t63 := ti_tn x4v
      refine ok_gd (fun hc64 => ?_) ?_
      · rcases hc64 with hc64 | hc64
        · have c65 : x4v.toInt < (0 : Int) := o_lt hc64
          omega
        · omega
      refine ok_bdv (fun d66 e67 => ?_)
      have i68 : RI ad h.1 δ0 d66 := by rw [e67]; exact RI.sR L I w54
      have u69 := kp_N kp_r (show q_I d66 = q_I δ by rw [e67]; rfl)
      have v70 : q_V d66 = q_V δ := ((show q_V d66 = q_V δ by rw [e67]; rfl)).trans rfl
      have v71 := kr_s L (by decide) (kr_r (ad := ad)) e67
      have t72 := ti_tn x1
      have v73 : sgk ad x1.toNatClampNeg δ d66 := sgk_t sgk_r ((show sgk ad x1.toNatClampNeg δ d66 by rw [e67]; exact sgk_2 L (by omega) (by omega)))
      refine ok_biv (fun vx74 e75 => ?_)
      first | (have q76 := te_addc (c := -1) (n := -1) (by decide) x4v (by omega) (by omega); rw [← e75] at q76; obtain ⟨f77, f78, f79⟩ := q76) | (obtain ⟨q76, f77, f78, f79⟩ : ∃ q : Int, vx74.toInt = x4v.toInt + (-1 : Int) + 4294967296 * q ∧ -2147483648 ≤ vx74.toInt ∧ vx74.toInt ≤ 2147483647 := by rw [e75]; exact ti_addc (c := -1) (n := -1) (by decide) x4v)
      have f80 : (q_R d66 (Ad ad 103) (x1).toNatClampNeg).toInt = (q_R δ (Ad ad 103) (x1).toNatClampNeg).toInt := congrArg Int32.toInt (show q_R d66 (Ad ad 103) (x1).toNatClampNeg = _ by rw [e67, rR_o (ad_ne L (by decide) (by decide) (by decide))])
      have f81 := rb_103 L i68 (x1).toNatClampNeg
      refine ok_mono (ih x3v vx74 d66 i68 (show 0 ≤ (x1).toInt by first | with_reducible assumption | omega) (show (x1).toInt ≤ 3 by first | with_reducible assumption | omega) (show 2000 * (x1).toInt ≤ (x3v).toInt by first | with_reducible assumption | omega) (show (x3v).toInt ≤ 2000 * (x1).toInt + 1999 by first | with_reducible assumption | omega) (show (vx74).toInt ≤ 2000 * (x1).toInt + 1999 by first | with_reducible assumption | omega) (show (x3v).toInt ≤ (vx74).toInt + 1000 by first | with_reducible assumption | omega) (show (q_R d66 (Ad ad 103) (x1).toNatClampNeg).toInt < 2000 by first | with_reducible assumption | omega) (show (vx74).toInt - (x3v).toInt + 1000 < _ by omega)) (fun r82 hr83 => ?_)
      obtain ⟨i84, ⟨u86, u87, u88, u89⟩, p85⟩ := hr83
      have u90 := kp_t u69 u86
      have v91 : q_V r82 = q_V δ := (u87).trans v70
      have v92 := kr_t v71 u88
      have v93 : sgk ad x1.toNatClampNeg δ r82 := sgk_t v73 u89
      have f94 := rb_103 L i84 (x1).toNatClampNeg
      exact ⟨by first | with_reducible assumption | assumption, ⟨kp_w (by decide) u90, v91, kr_w (by decide) v92, v93⟩, by first | with_reducible assumption | omega⟩
set_option maxHeartbeats 4000000 in
theorem g_X12_comes {ad : List Nat} {h : hp} (L : Lay TLx ad h) {δ0 : dp} {N : Nat} (hN : 10000000 ≤ N) {a0 : Nat} {x1 : Int32} {x2 : Int32} (k_a0 : q_K h.1 a0 = 12) {δ : dp} (z0 : 0 ≤ (x1).toInt) (z1 : (x1).toInt ≤ 3) (z2 : (q_R δ (Ad ad 103) (x1).toNatClampNeg).toInt < 2000) (I : RI ad h.1 δ0 δ) : ok (D_X12_comes N h.1 a0 x1 x2 δ) (fun r => RI ad h.1 δ0 r ∧ (kp [] δ r ∧ q_V r = q_V δ ∧ kr ad [102, 103] δ r ∧ sgk ad x1.toNatClampNeg δ r) ∧ (q_R r (Ad ad 103) (x1).toNatClampNeg).toInt = (q_R δ (Ad ad 103) (x1).toNatClampNeg).toInt + 1) := by
  unfold D_X12_comes
  have f1 := ti_b x1
  have t2 := ti_tn x1
  have f3 := rb_103 L I (x1).toNatClampNeg
  refine ok_bind (k_X12_place L hN (a0 := a0) (x1 := x1) (x2 := x2) k_a0 (show 0 ≤ (x1).toInt by first | with_reducible assumption | omega) (show (x1).toInt ≤ 3 by first | with_reducible assumption | omega) I) (fun r4 hr5 => ?_)
  obtain ⟨i6, p7, p8⟩ := hr5
  try rw [i6]
  have f9 := ti_b r4.1
  first | (have q13 := te_mulc (c := 2000) (n := 2000) rfl x1 (by omega) (by omega); obtain ⟨f14, f15, f16⟩ := q13) | (obtain ⟨q13, f14, f15, f16⟩ := ti_mulc (c := 2000) (n := 2000) rfl x1)
  refine ok_biv (fun vx10 e11 => ?_)
  first | (have q17 := te_add ((2000 : Int32) * x1) r4.1 (by omega) (by omega); rw [← e11] at q17; obtain ⟨f18, f19, f20⟩ := q17) | (obtain ⟨q17, f18, f19, f20⟩ : ∃ q : Int, vx10.toInt = ((2000 : Int32) * x1).toInt + r4.1.toInt + 4294967296 * q ∧ -2147483648 ≤ vx10.toInt ∧ vx10.toInt ≤ 2147483647 := by rw [e11]; exact ti_add ((2000 : Int32) * x1) r4.1)
  obtain ⟨b21, o22, k23, n24⟩ := gO_12_14 L k_a0
  obtain rfl := gS_12_14 L k_a0 o22
  refine ok_at o22 ?_
  have t25 := ti_tn x1
  refine ok_gd (fun hc26 => ?_) ?_
  · rcases hc26 with hc26 | hc26
    · have c27 : x1.toInt < (0 : Int) := o_lt hc26
      omega
    · omega
  have f30 := rb_103 L I x1.toNatClampNeg
  refine ok_biv (fun vx28 e29 => ?_)
  first | (have q31 := te_add ((2000 : Int32) * x1) (q_R δ (Ad ad 103) x1.toNatClampNeg) (by omega) (by omega); rw [← e29] at q31; obtain ⟨f32, f33, f34⟩ := q31) | (obtain ⟨q31, f32, f33, f34⟩ : ∃ q : Int, vx28.toInt = ((2000 : Int32) * x1).toInt + (q_R δ (Ad ad 103) x1.toNatClampNeg).toInt + 4294967296 * q ∧ -2147483648 ≤ vx28.toInt ∧ vx28.toInt ≤ 2147483647 := by rw [e29]; exact ti_add ((2000 : Int32) * x1) (q_R δ (Ad ad 103) x1.toNatClampNeg))
  refine ok_mono (gl_X12_comes_27 L hN   k_a0 _ vx10 vx28 δ I (show 0 ≤ (x1).toInt by first | with_reducible assumption | omega) (show (x1).toInt ≤ 3 by first | with_reducible assumption | omega) (show 2000 * (x1).toInt ≤ (vx10).toInt by first | with_reducible assumption | omega) (show (vx10).toInt ≤ 2000 * (x1).toInt + 1999 by first | with_reducible assumption | omega) (show (vx28).toInt ≤ 2000 * (x1).toInt + 1999 by first | with_reducible assumption | omega) (show (vx10).toInt ≤ (vx28).toInt + 1000 by first | with_reducible assumption | omega) (show (q_R δ (Ad ad 103) (x1).toNatClampNeg).toInt < 2000 by first | with_reducible assumption | omega) (show (vx28).toInt - (vx10).toInt + 1000 < _ by omega)) (fun r35 hr36 => ?_)
  obtain ⟨i37, ⟨u39, u40, u41, u42⟩, p38⟩ := hr36
  have u43 := kp_t kp_r u39
  have v44 : q_V r35 = q_V δ := (u40).trans rfl
  have v45 := kr_t (kr_r (ad := ad)) u41
  have v46 : sgk ad x1.toNatClampNeg δ r35 := sgk_t sgk_r u42
  have f47 := rb_103 L i37 (x1).toNatClampNeg
  exact ⟨by first | with_reducible assumption | assumption, ⟨kp_w (by decide) u43, v44, kr_w (by decide) v45, v46⟩, by first | with_reducible assumption | omega⟩
set_option maxHeartbeats 4000000 in
theorem gl_X12_leaves_23 {ad : List Nat} {h : hp} (L : Lay TLx ad h) {δ0 : dp} {N : Nat} (hN : 10000000 ≤ N) {a0 : Nat} {x1 : Int32} {x2 : Int32} (k_a0 : q_K h.1 a0 = 12) : ∀ (n : Nat) (x3v : Int32) (δ : dp), RI ad h.1 δ0 δ → 0 ≤ (x1).toInt → (x1).toInt ≤ 3 → 2000 * (x1).toInt ≤ (x3v).toInt → (x3v).toInt ≤ 2000 * (x1).toInt + 2000 → (q_R δ (Ad ad 103) (x1).toNatClampNeg).toInt ≤ 1999 → 2000 * (x1).toInt + 2000 - (x3v).toInt < (n : Int) → ok (L_X12_leaves_23 N h.1 a0 x1 x2 n x3v δ) (fun r => RI ad h.1 δ0 r ∧ (kp [] δ r ∧ q_V r = q_V δ ∧ kr ad [102, 103] δ r ∧ sgk ad x1.toNatClampNeg δ r) ∧ (q_R r (Ad ad 103) (x1).toNatClampNeg).toInt = (q_R δ (Ad ad 103) (x1).toNatClampNeg).toInt) := by
  intro n
  induction n with
  | zero =>
    intro x3v δ I j0 j1 j2 j3 j4 hm
    have f1 := ti_b x1
    have f2 := ti_b x3v
    have t3 := ti_tn x1
    have f4 := rb_103 L I (x1).toNatClampNeg
    exfalso; omega
  | succ n ih =>
    intro x3v δ I j0 j1 j2 j3 j4 hm
    unfold L_X12_leaves_23
    have f1 := ti_b x1
    have f2 := ti_b x3v
    have t3 := ti_tn x1
    have f4 := rb_103 L I (x1).toNatClampNeg
    obtain ⟨b5, o6, k7, n8⟩ := gO_12_14 L k_a0
    obtain rfl := gS_12_14 L k_a0 o6
    refine ok_at o6 ?_
    have t9 := ti_tn x1
    refine ok_gd (fun hc10 => ?_) ?_
    · rcases hc10 with hc10 | hc10
      · have c11 : x1.toInt < (0 : Int) := o_lt hc10
        omega
      · omega
    first | (have q13 := te_mulc (c := 2000) (n := 2000) rfl x1 (by omega) (by omega); obtain ⟨f14, f15, f16⟩ := q13) | (obtain ⟨q13, f14, f15, f16⟩ := ti_mulc (c := 2000) (n := 2000) rfl x1)
    have f17 := rb_103 L I x1.toNatClampNeg
    first | (have q19 := te_add ((2000 : Int32) * x1) (q_R δ (Ad ad 103) x1.toNatClampNeg) (by omega) (by omega); obtain ⟨f20, f21, f22⟩ := q19) | (obtain ⟨q19, f20, f21, f22⟩ := ti_add ((2000 : Int32) * x1) (q_R δ (Ad ad 103) x1.toNatClampNeg))
    refine ok_ite (fun h23 => ?_) (fun h23 => ?_)
    · have c24 : (((2000 : Int32) * x1) + (q_R δ (Ad ad 103) x1.toNatClampNeg)).toInt ≤ x3v.toInt := o_le h23
      exact ok_some (show RI ad h.1 δ0 δ ∧ (kp [] δ δ ∧ q_V δ = q_V δ ∧ kr ad [102, 103] δ δ ∧ sgk ad x1.toNatClampNeg δ δ) ∧ (q_R δ (Ad ad 103) (x1).toNatClampNeg).toInt = (q_R δ (Ad ad 103) (x1).toNatClampNeg).toInt from ⟨I, ⟨kp_w (by decide) kp_r, rfl, kr_w (by decide) (kr_r (ad := ad)), sgk_r⟩, by first | with_reducible assumption | omega⟩)
    · have c25 : x3v.toInt < (((2000 : Int32) * x1) + (q_R δ (Ad ad 103) x1.toNatClampNeg)).toInt := o_nle h23
      obtain ⟨b26, o27, k28, n29, w30⟩ := gO_12_13 L k_a0
      obtain rfl := gS_12_13 L k_a0 o27
      refine ok_at o27 ?_
      refine ok_at o27 ?_
      first | (have q32 := te_addc (c := 1) (n := 1) rfl x3v (by omega) (by omega); obtain ⟨f33, f34, f35⟩ := q32) | (obtain ⟨q32, f33, f34, f35⟩ := ti_addc (c := 1) (n := 1) rfl x3v)
      have t36 := ti_tn (x3v + (1 : Int32))
      refine ok_gd (fun hc37 => ?_) ?_
      · rcases hc37 with hc37 | hc37
        · have c38 : (x3v + (1 : Int32)).toInt < (0 : Int) := o_lt hc37
          omega
        · omega
      have t39 := ti_tn x3v
      refine ok_gd (fun hc40 => ?_) ?_
      · rcases hc40 with hc40 | hc40
        · have c41 : x3v.toInt < (0 : Int) := o_lt hc40
          omega
        · omega
      refine ok_bdv (fun d42 e43 => ?_)
      have i44 : RI ad h.1 δ0 d42 := by rw [e43]; exact RI.sR L I w30
      have u45 := kp_N kp_r (show q_I d42 = q_I δ by rw [e43]; rfl)
      have v46 : q_V d42 = q_V δ := ((show q_V d42 = q_V δ by rw [e43]; rfl)).trans rfl
      have v47 := kr_s L (by decide) (kr_r (ad := ad)) e43
      have v48 : sgk ad x1.toNatClampNeg δ d42 := sgk_t sgk_r ((show sgk ad x1.toNatClampNeg δ d42 by rw [e43]; exact sgk_2 L (by omega) (by omega)))
      refine ok_biv (fun vx49 e50 => ?_)
      first | (have q51 := te_addc (c := 1) (n := 1) rfl x3v (by omega) (by omega); rw [← e50] at q51; obtain ⟨f52, f53, f54⟩ := q51) | (obtain ⟨q51, f52, f53, f54⟩ : ∃ q : Int, vx49.toInt = x3v.toInt + (1 : Int) + 4294967296 * q ∧ -2147483648 ≤ vx49.toInt ∧ vx49.toInt ≤ 2147483647 := by rw [e50]; exact ti_addc (c := 1) (n := 1) rfl x3v)
      have f55 : (q_R d42 (Ad ad 103) (x1).toNatClampNeg).toInt = (q_R δ (Ad ad 103) (x1).toNatClampNeg).toInt := congrArg Int32.toInt (show q_R d42 (Ad ad 103) (x1).toNatClampNeg = _ by rw [e43, rR_o (ad_ne L (by decide) (by decide) (by decide))])
      have f56 := rb_103 L i44 (x1).toNatClampNeg
      refine ok_mono (ih vx49 d42 i44 (show 0 ≤ (x1).toInt by first | with_reducible assumption | omega) (show (x1).toInt ≤ 3 by first | with_reducible assumption | omega) (show 2000 * (x1).toInt ≤ (vx49).toInt by first | with_reducible assumption | omega) (show (vx49).toInt ≤ 2000 * (x1).toInt + 2000 by first | with_reducible assumption | omega) (show (q_R d42 (Ad ad 103) (x1).toNatClampNeg).toInt ≤ 1999 by first | with_reducible assumption | omega) (show 2000 * (x1).toInt + 2000 - (vx49).toInt < _ by omega)) (fun r57 hr58 => ?_)
      obtain ⟨i59, ⟨u61, u62, u63, u64⟩, p60⟩ := hr58
      have u65 := kp_t u45 u61
      have v66 : q_V r57 = q_V δ := (u62).trans v46
      have v67 := kr_t v47 u63
      have v68 : sgk ad x1.toNatClampNeg δ r57 := sgk_t v48 u64
      have f69 := rb_103 L i59 (x1).toNatClampNeg
      exact ⟨by first | with_reducible assumption | assumption, ⟨kp_w (by decide) u65, v66, kr_w (by decide) v67, v68⟩, by first | with_reducible assumption | omega⟩
set_option maxHeartbeats 4000000 in
theorem g_X12_leaves {ad : List Nat} {h : hp} (L : Lay TLx ad h) {δ0 : dp} {N : Nat} (hN : 10000000 ≤ N) {a0 : Nat} {x1 : Int32} {x2 : Int32} (k_a0 : q_K h.1 a0 = 12) {δ : dp} (z0 : 0 ≤ (x1).toInt) (z1 : (x1).toInt ≤ 3) (z2 : -999 ≤ (q_R δ (Ad ad 103) (x1).toNatClampNeg).toInt) (I : RI ad h.1 δ0 δ) : ok (D_X12_leaves N h.1 a0 x1 x2 δ) (fun r => RI ad h.1 δ0 r ∧ (kp [] δ r ∧ q_V r = q_V δ ∧ kr ad [102, 103] δ r ∧ sgk ad x1.toNatClampNeg δ r) ∧ (q_R r (Ad ad 103) (x1).toNatClampNeg).toInt = (q_R δ (Ad ad 103) (x1).toNatClampNeg).toInt - 1) := by
  unfold D_X12_leaves
  have f1 := ti_b x1
  have t2 := ti_tn x1
  have f3 := rb_103 L I (x1).toNatClampNeg
  obtain ⟨b4, o5, k6, n7⟩ := gO_12_14 L k_a0
  obtain rfl := gS_12_14 L k_a0 o5
  refine ok_at o5 ?_
  have t8 := ti_tn x1
  refine ok_gd (fun hc9 => ?_) ?_
  · rcases hc9 with hc9 | hc9
    · have c10 : x1.toInt < (0 : Int) := o_lt hc9
      omega
    · omega
  refine ok_gd (fun hc11 => ?_) ?_
  · rcases hc11 with hc11 | hc11
    · have c12 : x1.toInt < (0 : Int) := o_lt hc11
      omega
    · omega
  have f16 := rb_103 L I x1.toNatClampNeg
  first | (have q18 := te_subc (c := 1) (n := 1) rfl (q_R δ (Ad ad 103) x1.toNatClampNeg) (by omega) (by omega); obtain ⟨f19, f20, f21⟩ := q18) | (obtain ⟨q18, f19, f20, f21⟩ := ti_subc (c := 1) (n := 1) rfl (q_R δ (Ad ad 103) x1.toNatClampNeg))
  refine ok_bdv (fun d13 e14 => ?_)
  have i15 : RI ad h.1 δ0 d13 := by rw [e14]; exact cr_103 L I (show -1000 ≤ ((q_R δ (Ad ad 103) x1.toNatClampNeg) - (1 : Int32)).toInt by omega) (show ((q_R δ (Ad ad 103) x1.toNatClampNeg) - (1 : Int32)).toInt ≤ 2000 by omega)
  have u22 := kp_N kp_r (show q_I d13 = q_I δ by rw [e14]; rfl)
  have v23 : q_V d13 = q_V δ := ((show q_V d13 = q_V δ by rw [e14]; rfl)).trans rfl
  have v24 := kr_s L (by decide) (kr_r (ad := ad)) e14
  have v25 : sgk ad x1.toNatClampNeg δ d13 := sgk_t sgk_r ((show sgk ad x1.toNatClampNeg δ d13 by rw [e14]; exact sgk_3 L))
  refine ok_bind (k_X12_place L hN (a0 := a0) (x1 := x1) (x2 := x2) k_a0 (show 0 ≤ (x1).toInt by first | with_reducible assumption | omega) (show (x1).toInt ≤ 3 by first | with_reducible assumption | omega) i15) (fun r26 hr27 => ?_)
  obtain ⟨i28, p29, p30⟩ := hr27
  try rw [i28]
  have f31 := ti_b r26.1
  have f32 : (q_R d13 (Ad ad 103) (x1).toNatClampNeg).toInt = ((q_R δ (Ad ad 103) x1.toNatClampNeg) - (1 : Int32)).toInt := congrArg Int32.toInt (show q_R d13 (Ad ad 103) (x1).toNatClampNeg = ((q_R δ (Ad ad 103) x1.toNatClampNeg) - (1 : Int32)) by rw [e14, qR_sR, if_pos ⟨rfl, rfl⟩])
  have f33 := rb_103 L i15 (x1).toNatClampNeg
  first | (have q37 := te_mulc (c := 2000) (n := 2000) rfl x1 (by omega) (by omega); obtain ⟨f38, f39, f40⟩ := q37) | (obtain ⟨q37, f38, f39, f40⟩ := ti_mulc (c := 2000) (n := 2000) rfl x1)
  refine ok_biv (fun vx34 e35 => ?_)
  first | (have q41 := te_add ((2000 : Int32) * x1) r26.1 (by omega) (by omega); rw [← e35] at q41; obtain ⟨f42, f43, f44⟩ := q41) | (obtain ⟨q41, f42, f43, f44⟩ : ∃ q : Int, vx34.toInt = ((2000 : Int32) * x1).toInt + r26.1.toInt + 4294967296 * q ∧ -2147483648 ≤ vx34.toInt ∧ vx34.toInt ≤ 2147483647 := by rw [e35]; exact ti_add ((2000 : Int32) * x1) r26.1)
  refine ok_mono (gl_X12_leaves_23 L hN   k_a0 _ vx34 d13 i15 (show 0 ≤ (x1).toInt by first | with_reducible assumption | omega) (show (x1).toInt ≤ 3 by first | with_reducible assumption | omega) (show 2000 * (x1).toInt ≤ (vx34).toInt by first | with_reducible assumption | omega) (show (vx34).toInt ≤ 2000 * (x1).toInt + 2000 by first | with_reducible assumption | omega) (show (q_R d13 (Ad ad 103) (x1).toNatClampNeg).toInt ≤ 1999 by first | with_reducible assumption | omega) (show 2000 * (x1).toInt + 2000 - (vx34).toInt < _ by omega)) (fun r45 hr46 => ?_)
  obtain ⟨i47, ⟨u49, u50, u51, u52⟩, p48⟩ := hr46
  have u53 := kp_t u22 u49
  have v54 : q_V r45 = q_V δ := (u50).trans v23
  have v55 := kr_t v24 u51
  have v56 : sgk ad x1.toNatClampNeg δ r45 := sgk_t v25 u52
  have f57 := rb_103 L i47 (x1).toNatClampNeg
  exact ⟨by first | with_reducible assumption | assumption, ⟨kp_w (by decide) u53, v54, kr_w (by decide) v55, v56⟩, by first | with_reducible assumption | omega⟩
set_option maxHeartbeats 4000000 in
theorem g_X12_changes {ad : List Nat} {h : hp} (L : Lay TLx ad h) {δ0 : dp} {N : Nat} (hN : 10000000 ≤ N) {a0 : Nat} {x1 : Int32} {x2 : Int32} (k_a0 : q_K h.1 a0 = 12) {δ : dp} (z0 : 0 ≤ (x1).toInt) (z1 : (x1).toInt ≤ 3) (z2 : 0 ≤ (x2).toInt) (z3 : (x2).toInt < 1000) (z4 : -999 ≤ (q_R δ (Ad ad 103) (x1).toNatClampNeg).toInt) (z5 : (q_R δ (Ad ad 103) (x1).toNatClampNeg).toInt < 2000) (I : RI ad h.1 δ0 δ) : ok (D_X12_changes N h.1 a0 x1 x2 δ) (fun r => RI ad h.1 δ0 r ∧ (kp [] δ r ∧ q_V r = q_V δ ∧ kr ad [102, 103] δ r ∧ sgk ad x1.toNatClampNeg δ r) ∧ (q_R δ (Ad ad 103) (x1).toNatClampNeg).toInt - 1 ≤ (q_R r (Ad ad 103) (x1).toNatClampNeg).toInt ∧ (q_R r (Ad ad 103) (x1).toNatClampNeg).toInt ≤ (q_R δ (Ad ad 103) (x1).toNatClampNeg).toInt + 1) := by
  unfold D_X12_changes
  have f1 := ti_b x1
  have f2 := ti_b x2
  have t3 := ti_tn x1
  have f4 := rb_103 L I (x1).toNatClampNeg
  obtain ⟨b5, o6, k7, n8, w9⟩ := gO_12_15 L k_a0
  obtain rfl := gS_12_15 L k_a0 o6
  refine ok_at o6 ?_
  first | (have q11 := te_mulc (c := 1000) (n := 1000) rfl x1 (by omega) (by omega); obtain ⟨f12, f13, f14⟩ := q11) | (obtain ⟨q11, f12, f13, f14⟩ := ti_mulc (c := 1000) (n := 1000) rfl x1)
  first | (have q16 := te_add ((1000 : Int32) * x1) x2 (by omega) (by omega); obtain ⟨f17, f18, f19⟩ := q16) | (obtain ⟨q16, f17, f18, f19⟩ := ti_add ((1000 : Int32) * x1) x2)
  have t20 := ti_tn (((1000 : Int32) * x1) + x2)
  refine ok_gd (fun hc21 => ?_) ?_
  · rcases hc21 with hc21 | hc21
    · have c22 : (((1000 : Int32) * x1) + x2).toInt < (0 : Int) := o_lt hc21
      omega
    · omega
  have f25 := ti_b (q_R δ (Ad ad 104) (((1000 : Int32) * x1) + x2).toNatClampNeg)
  refine ok_biv (fun vx23 e24 => ?_)
  have f26 : vx23.toInt = (q_R δ (Ad ad 104) (((1000 : Int32) * x1) + x2).toNatClampNeg).toInt := congrArg Int32.toInt e24
  obtain ⟨b27, o28, k29, n30, w31⟩ := gO_12_16 L k_a0
  obtain rfl := gS_12_16 L k_a0 o28
  refine ok_at o28 ?_
  refine ok_gd (fun hc32 => ?_) ?_
  · rcases hc32 with hc32 | hc32
    · have c33 : (((1000 : Int32) * x1) + x2).toInt < (0 : Int) := o_lt hc32
      omega
    · omega
  have f34 := ti_b (q_R δ (Ad ad 105) (((1000 : Int32) * x1) + x2).toNatClampNeg)
  refine ok_ite (fun h35 => ?_) (fun h35 => ?_)
  · have c36 : (q_R δ (Ad ad 105) (((1000 : Int32) * x1) + x2).toNatClampNeg).toInt = (1 : Int) := o_eq h35
    refine ok_bind (g_X12_comes L hN (a0 := a0) (x1 := x1) (x2 := vx23) k_a0 (show 0 ≤ (x1).toInt by first | with_reducible assumption | omega) (show (x1).toInt ≤ 3 by first | with_reducible assumption | omega) (show (q_R δ (Ad ad 103) (x1).toNatClampNeg).toInt < 2000 by first | with_reducible assumption | omega) I) (fun r37 hr38 => ?_)
    obtain ⟨i39, ⟨u41, u42, u43, u44⟩, p40⟩ := hr38
    have u45 := kp_t kp_r u41
    have v46 : q_V r37 = q_V δ := (u42).trans rfl
    have v47 := kr_t (kr_r (ad := ad)) u43
    have v48 : sgk ad x1.toNatClampNeg δ r37 := sgk_t sgk_r u44
    have f49 := rb_103 L i39 (x1).toNatClampNeg
    unfold J_X12_changes_44
    exact ok_some (show RI ad h.1 δ0 r37 ∧ (kp [] δ r37 ∧ q_V r37 = q_V δ ∧ kr ad [102, 103] δ r37 ∧ sgk ad x1.toNatClampNeg δ r37) ∧ (q_R δ (Ad ad 103) (x1).toNatClampNeg).toInt - 1 ≤ (q_R r37 (Ad ad 103) (x1).toNatClampNeg).toInt ∧ (q_R r37 (Ad ad 103) (x1).toNatClampNeg).toInt ≤ (q_R δ (Ad ad 103) (x1).toNatClampNeg).toInt + 1 from ⟨i39, ⟨kp_w (by decide) u45, v46, kr_w (by decide) v47, v48⟩, by first | with_reducible assumption | omega, by first | with_reducible assumption | omega⟩)
  · have c50 : (q_R δ (Ad ad 105) (((1000 : Int32) * x1) + x2).toNatClampNeg).toInt ≠ (1 : Int) := o_ne h35
    refine ok_bind (g_X12_leaves L hN (a0 := a0) (x1 := x1) (x2 := vx23) k_a0 (show 0 ≤ (x1).toInt by first | with_reducible assumption | omega) (show (x1).toInt ≤ 3 by first | with_reducible assumption | omega) (show -999 ≤ (q_R δ (Ad ad 103) (x1).toNatClampNeg).toInt by first | with_reducible assumption | omega) I) (fun r51 hr52 => ?_)
    obtain ⟨i53, ⟨u55, u56, u57, u58⟩, p54⟩ := hr52
    have u59 := kp_t kp_r u55
    have v60 : q_V r51 = q_V δ := (u56).trans rfl
    have v61 := kr_t (kr_r (ad := ad)) u57
    have v62 : sgk ad x1.toNatClampNeg δ r51 := sgk_t sgk_r u58
    have f63 := rb_103 L i53 (x1).toNatClampNeg
    unfold J_X12_changes_44
    exact ok_some (show RI ad h.1 δ0 r51 ∧ (kp [] δ r51 ∧ q_V r51 = q_V δ ∧ kr ad [102, 103] δ r51 ∧ sgk ad x1.toNatClampNeg δ r51) ∧ (q_R δ (Ad ad 103) (x1).toNatClampNeg).toInt - 1 ≤ (q_R r51 (Ad ad 103) (x1).toNatClampNeg).toInt ∧ (q_R r51 (Ad ad 103) (x1).toNatClampNeg).toInt ≤ (q_R δ (Ad ad 103) (x1).toNatClampNeg).toInt + 1 from ⟨i53, ⟨kp_w (by decide) u59, v60, kr_w (by decide) v61, v62⟩, by first | with_reducible assumption | omega, by first | with_reducible assumption | omega⟩)
set_option maxHeartbeats 4000000 in
theorem gl_X12_goesTo_14 {ad : List Nat} {h : hp} (L : Lay TLx ad h) {δ0 : dp} {N : Nat} (hN : 10000000 ≤ N) {a0 : Nat} {x1 : Int32} {x2 : Int32} (k_a0 : q_K h.1 a0 = 12) : ∀ (n : Nat) (x3v : Int32) (δ : dp), RI ad h.1 δ0 δ → 0 ≤ (x1).toInt → (x1).toInt ≤ 3 → 0 ≤ (x3v).toInt → (x3v).toInt ≤ (x2).toInt → (x2).toInt ≤ 1000 → -(x3v).toInt ≤ (q_R δ (Ad ad 103) (x1).toNatClampNeg).toInt → (q_R δ (Ad ad 103) (x1).toNatClampNeg).toInt ≤ (x3v).toInt → (x2).toInt - (x3v).toInt < (n : Int) → ok (L_X12_goesTo_14 N h.1 a0 x1 x2 n x3v δ) (fun r => RI ad h.1 δ0 r ∧ (kp [(12, 47)] δ r ∧ q_V r = q_V δ ∧ kr ad [102, 103, 124] δ r ∧ sgk ad x1.toNatClampNeg δ r)) := by
  intro n
  induction n with
  | zero =>
    intro x3v δ I j0 j1 j2 j3 j4 j5 j6 hm
    have f1 := ti_b x1
    have f2 := ti_b x3v
    have f3 := ti_b x2
    have t4 := ti_tn x1
    have f5 := rb_103 L I (x1).toNatClampNeg
    exfalso; omega
  | succ n ih =>
    intro x3v δ I j0 j1 j2 j3 j4 j5 j6 hm
    unfold L_X12_goesTo_14
    have f1 := ti_b x1
    have f2 := ti_b x3v
    have f3 := ti_b x2
    have t4 := ti_tn x1
    have f5 := rb_103 L I (x1).toNatClampNeg
    refine ok_ite (fun h6 => ?_) (fun h6 => ?_)
    · have c7 : x2.toInt ≤ x3v.toInt := o_le h6
      exact ok_some (show RI ad h.1 δ0 δ ∧ (kp [(12, 47)] δ δ ∧ q_V δ = q_V δ ∧ kr ad [102, 103, 124] δ δ ∧ sgk ad x1.toNatClampNeg δ δ) from ⟨I, ⟨kp_w (by decide) kp_r, rfl, kr_w (by decide) (kr_r (ad := ad)), sgk_r⟩⟩)
    · have c8 : x3v.toInt < x2.toInt := o_nle h6
      refine ok_bind (g_X12_changes L hN (a0 := a0) (x1 := x1) (x2 := x3v) k_a0 (show 0 ≤ (x1).toInt by first | with_reducible assumption | omega) (show (x1).toInt ≤ 3 by first | with_reducible assumption | omega) (show 0 ≤ (x3v).toInt by first | with_reducible assumption | omega) (show (x3v).toInt < 1000 by first | with_reducible assumption | omega) (show -999 ≤ (q_R δ (Ad ad 103) (x1).toNatClampNeg).toInt by first | with_reducible assumption | omega) (show (q_R δ (Ad ad 103) (x1).toNatClampNeg).toInt < 2000 by first | with_reducible assumption | omega) I) (fun r9 hr10 => ?_)
      obtain ⟨i11, ⟨u14, u15, u16, u17⟩, p12, p13⟩ := hr10
      have u18 := kp_t kp_r u14
      have v19 : q_V r9 = q_V δ := (u15).trans rfl
      have v20 := kr_t (kr_r (ad := ad)) u16
      have v21 : sgk ad x1.toNatClampNeg δ r9 := sgk_t sgk_r u17
      have f22 := rb_103 L i11 (x1).toNatClampNeg
      refine ok_biv (fun vx23 e24 => ?_)
      first | (have q25 := te_addc (c := 1) (n := 1) rfl x3v (by omega) (by omega); rw [← e24] at q25; obtain ⟨f26, f27, f28⟩ := q25) | (obtain ⟨q25, f26, f27, f28⟩ : ∃ q : Int, vx23.toInt = x3v.toInt + (1 : Int) + 4294967296 * q ∧ -2147483648 ≤ vx23.toInt ∧ vx23.toInt ≤ 2147483647 := by rw [e24]; exact ti_addc (c := 1) (n := 1) rfl x3v)
      refine ok_mono (ih vx23 r9 i11 (show 0 ≤ (x1).toInt by first | with_reducible assumption | omega) (show (x1).toInt ≤ 3 by first | with_reducible assumption | omega) (show 0 ≤ (vx23).toInt by first | with_reducible assumption | omega) (show (vx23).toInt ≤ (x2).toInt by first | with_reducible assumption | omega) (show (x2).toInt ≤ 1000 by first | with_reducible assumption | omega) (show -(vx23).toInt ≤ (q_R r9 (Ad ad 103) (x1).toNatClampNeg).toInt by first | with_reducible assumption | omega) (show (q_R r9 (Ad ad 103) (x1).toNatClampNeg).toInt ≤ (vx23).toInt by first | with_reducible assumption | omega) (show (x2).toInt - (vx23).toInt < _ by omega)) (fun r29 hr30 => ?_)
      obtain ⟨i31, ⟨u32, u33, u34, u35⟩⟩ := hr30
      have u36 := kp_t u18 u32
      have v37 : q_V r29 = q_V δ := (u33).trans v19
      have v38 := kr_t v20 u34
      have v39 : sgk ad x1.toNatClampNeg δ r29 := sgk_t v21 u35
      exact ⟨by first | with_reducible assumption | assumption, ⟨kp_w (by decide) u36, v37, kr_w (by decide) v38, v39⟩⟩
set_option maxHeartbeats 4000000 in
theorem g_X12_goesTo {ad : List Nat} {h : hp} (L : Lay TLx ad h) {δ0 : dp} {N : Nat} (hN : 10000000 ≤ N) {a0 : Nat} {x1 : Int32} {x2 : Int32} (k_a0 : q_K h.1 a0 = 12) {δ : dp} (z0 : 0 ≤ (x1).toInt) (z1 : (x1).toInt ≤ 3) (z2 : 0 ≤ (x2).toInt) (z3 : (x2).toInt ≤ 1000) (I : RI ad h.1 δ0 δ) : ok (D_X12_goesTo N h.1 a0 x1 x2 δ) (fun r => RI ad h.1 δ0 r ∧ (kp [(12, 47)] δ r ∧ q_V r = q_V δ ∧ kr ad [102, 103, 124] δ r ∧ sgk ad x1.toNatClampNeg δ r)) := by
  unfold D_X12_goesTo
  have f1 := ti_b x1
  have f2 := ti_b x2
  refine ok_bind (k_X12_keeps L hN (a0 := a0) (x1 := x1) k_a0 (show 0 ≤ (x1).toInt by first | with_reducible assumption | omega) (show (x1).toInt ≤ 3 by first | with_reducible assumption | omega) I) (fun r3 hr4 => ?_)
  obtain ⟨i5, ⟨u7, u8, u9⟩, p6⟩ := hr4
  have u10 := kp_t kp_r u7
  have v11 : q_V r3 = q_V δ := (u8).trans rfl
  have v12 := kr_t (kr_r (ad := ad)) u9
  have v13 : sgk ad x1.toNatClampNeg δ r3 := sgk_t sgk_r (sgk_k (u9 102 (by decide) (by decide) (by decide)) (u9 103 (by decide) (by decide) (by decide)))
  have f14 := cb_12_47 i5 k_a0
  have t15 := ti_tn x1
  have f16 := rb_103 L I (x1).toNatClampNeg
  obtain ⟨b17, o18, k19, n20⟩ := gO_12_14 L k_a0
  obtain rfl := gS_12_14 L k_a0 o18
  refine ok_at o18 ?_
  have t21 := ti_tn x1
  refine ok_gd (fun hc22 => ?_) ?_
  · rcases hc22 with hc22 | hc22
    · have c23 : x1.toInt < (0 : Int) := o_lt hc22
      omega
    · omega
  refine ok_bdv (fun d24 e25 => ?_)
  have i26 : RI ad h.1 δ0 d24 := by rw [e25]; exact cr_103 L i5 (show -1000 ≤ (0 : Int) by omega) (show (0 : Int) ≤ 2000 by omega)
  have u27 := kp_N u10 (show q_I d24 = q_I r3 by rw [e25]; rfl)
  have v28 : q_V d24 = q_V δ := ((show q_V d24 = q_V r3 by rw [e25]; rfl)).trans v11
  have v29 := kr_s L (by decide) v12 e25
  have v30 : sgk ad x1.toNatClampNeg δ d24 := sgk_t v13 ((show sgk ad x1.toNatClampNeg r3 d24 by rw [e25]; exact sgk_3 L))
  have f31 : (q_R d24 (Ad ad 103) (x1).toNatClampNeg).toInt = (0 : Int) := congrArg Int32.toInt (show q_R d24 (Ad ad 103) (x1).toNatClampNeg = (0 : Int32) by rw [e25, qR_sR, if_pos ⟨rfl, rfl⟩])
  have f32 := rb_103 L i26 (x1).toNatClampNeg
  refine ok_mono (gl_X12_goesTo_14 L hN   k_a0 _ (0 : Int32) d24 i26 (show 0 ≤ (x1).toInt by first | with_reducible assumption | omega) (show (x1).toInt ≤ 3 by first | with_reducible assumption | omega) (show 0 ≤ (0 : Int) by first | with_reducible assumption | omega) (show (0 : Int) ≤ (x2).toInt by first | with_reducible assumption | omega) (show (x2).toInt ≤ 1000 by first | with_reducible assumption | omega) (show -(0 : Int) ≤ (q_R d24 (Ad ad 103) (x1).toNatClampNeg).toInt by first | with_reducible assumption | omega) (show (q_R d24 (Ad ad 103) (x1).toNatClampNeg).toInt ≤ (0 : Int) by first | with_reducible assumption | omega) (show (x2).toInt - (0 : Int) < _ by omega)) (fun r33 hr34 => ?_)
  obtain ⟨i35, ⟨u36, u37, u38, u39⟩⟩ := hr34
  have u40 := kp_t u27 u36
  have v41 : q_V r33 = q_V δ := (u37).trans v28
  have v42 := kr_t v29 u38
  have v43 : sgk ad x1.toNatClampNeg δ r33 := sgk_t v30 u39
  exact ⟨by first | with_reducible assumption | assumption, ⟨kp_w (by decide) u40, v41, kr_w (by decide) v42, v43⟩⟩
set_option maxHeartbeats 4000000 in
theorem gl_X12_comesBack_2 {ad : List Nat} {h : hp} (L : Lay TLx ad h) {δ0 : dp} {N : Nat} (hN : 10000000 ≤ N) {a0 : Nat} {x1 : Int32} (k_a0 : q_K h.1 a0 = 12) : ∀ (n : Nat) (x2v : Int32) (δ : dp), RI ad h.1 δ0 δ → 0 ≤ (x1).toInt → (x1).toInt ≤ 3 → 0 ≤ (x2v).toInt → (x2v).toInt ≤ 2000 → 2000 - (x2v).toInt < (n : Int) → ok (L_X12_comesBack_2 N h.1 a0 x1 n x2v δ) (fun r => RI ad h.1 δ0 r ∧ (kp [] δ r ∧ q_V r = q_V δ ∧ kr ad [102, 103] δ r ∧ sgk ad x1.toNatClampNeg δ r)) := by
  intro n
  induction n with
  | zero =>
    intro x2v δ I j0 j1 j2 j3 hm
    have f1 := ti_b x1
    have f2 := ti_b x2v
    exfalso; omega
  | succ n ih =>
    intro x2v δ I j0 j1 j2 j3 hm
    unfold L_X12_comesBack_2
    have f1 := ti_b x1
    have f2 := ti_b x2v
    have f3 := cb_12_47 I k_a0
    refine ok_ite (fun h4 => ?_) (fun h4 => ?_)
    · have c5 : (q_I δ 12 47 a0).toInt ≤ x2v.toInt := o_le h4
      obtain ⟨b6, o7, k8, n9⟩ := gO_12_14 L k_a0
      obtain rfl := gS_12_14 L k_a0 o7
      refine ok_at o7 ?_
      have t10 := ti_tn x1
      refine ok_gd (fun hc11 => ?_) ?_
      · rcases hc11 with hc11 | hc11
        · have c12 : x1.toInt < (0 : Int) := o_lt hc11
          omega
        · omega
      refine ok_bdv (fun d13 e14 => ?_)
      have i15 : RI ad h.1 δ0 d13 := by rw [e14]; exact cr_103 L I (show -1000 ≤ (q_I δ 12 47 a0).toInt by omega) (show (q_I δ 12 47 a0).toInt ≤ 2000 by omega)
      have u16 := kp_N kp_r (show q_I d13 = q_I δ by rw [e14]; rfl)
      have v17 : q_V d13 = q_V δ := ((show q_V d13 = q_V δ by rw [e14]; rfl)).trans rfl
      have v18 := kr_s L (by decide) (kr_r (ad := ad)) e14
      have v19 : sgk ad x1.toNatClampNeg δ d13 := sgk_t sgk_r ((show sgk ad x1.toNatClampNeg δ d13 by rw [e14]; exact sgk_3 L))
      exact ok_some (show RI ad h.1 δ0 d13 ∧ (kp [] δ d13 ∧ q_V d13 = q_V δ ∧ kr ad [102, 103] δ d13 ∧ sgk ad x1.toNatClampNeg δ d13) from ⟨i15, ⟨kp_w (by decide) u16, v17, kr_w (by decide) v18, v19⟩⟩)
    · have c20 : x2v.toInt < (q_I δ 12 47 a0).toInt := o_nle h4
      obtain ⟨b21, o22, k23, n24, w25⟩ := gO_12_13 L k_a0
      obtain rfl := gS_12_13 L k_a0 o22
      refine ok_at o22 ?_
      obtain ⟨b26, o27, k28, n29, w30⟩ := gO_12_46 L k_a0
      obtain rfl := gS_12_46 L k_a0 o27
      refine ok_at o27 ?_
      have t31 := ti_tn x2v
      refine ok_gd (fun hc32 => ?_) ?_
      · rcases hc32 with hc32 | hc32
        · have c33 : x2v.toInt < (0 : Int) := o_lt hc32
          omega
        · omega
      first | (have q35 := te_mulc (c := 2000) (n := 2000) rfl x1 (by omega) (by omega); obtain ⟨f36, f37, f38⟩ := q35) | (obtain ⟨q35, f36, f37, f38⟩ := ti_mulc (c := 2000) (n := 2000) rfl x1)
      first | (have q40 := te_add ((2000 : Int32) * x1) x2v (by omega) (by omega); obtain ⟨f41, f42, f43⟩ := q40) | (obtain ⟨q40, f41, f42, f43⟩ := ti_add ((2000 : Int32) * x1) x2v)
      have t44 := ti_tn (((2000 : Int32) * x1) + x2v)
      refine ok_gd (fun hc45 => ?_) ?_
      · rcases hc45 with hc45 | hc45
        · have c46 : (((2000 : Int32) * x1) + x2v).toInt < (0 : Int) := o_lt hc45
          omega
        · omega
      refine ok_bdv (fun d47 e48 => ?_)
      have i49 : RI ad h.1 δ0 d47 := by rw [e48]; exact RI.sR L I w25
      have u50 := kp_N kp_r (show q_I d47 = q_I δ by rw [e48]; rfl)
      have v51 : q_V d47 = q_V δ := ((show q_V d47 = q_V δ by rw [e48]; rfl)).trans rfl
      have v52 := kr_s L (by decide) (kr_r (ad := ad)) e48
      have t53 := ti_tn x1
      have v54 : sgk ad x1.toNatClampNeg δ d47 := sgk_t sgk_r ((show sgk ad x1.toNatClampNeg δ d47 by rw [e48]; exact sgk_2 L (by omega) (by omega)))
      refine ok_biv (fun vx55 e56 => ?_)
      first | (have q57 := te_addc (c := 1) (n := 1) rfl x2v (by omega) (by omega); rw [← e56] at q57; obtain ⟨f58, f59, f60⟩ := q57) | (obtain ⟨q57, f58, f59, f60⟩ : ∃ q : Int, vx55.toInt = x2v.toInt + (1 : Int) + 4294967296 * q ∧ -2147483648 ≤ vx55.toInt ∧ vx55.toInt ≤ 2147483647 := by rw [e56]; exact ti_addc (c := 1) (n := 1) rfl x2v)
      refine ok_mono (ih vx55 d47 i49 (show 0 ≤ (x1).toInt by first | with_reducible assumption | omega) (show (x1).toInt ≤ 3 by first | with_reducible assumption | omega) (show 0 ≤ (vx55).toInt by first | with_reducible assumption | omega) (show (vx55).toInt ≤ 2000 by first | with_reducible assumption | omega) (show 2000 - (vx55).toInt < _ by omega)) (fun r61 hr62 => ?_)
      obtain ⟨i63, ⟨u64, u65, u66, u67⟩⟩ := hr62
      have u68 := kp_t u50 u64
      have v69 : q_V r61 = q_V δ := (u65).trans v51
      have v70 := kr_t v52 u66
      have v71 : sgk ad x1.toNatClampNeg δ r61 := sgk_t v54 u67
      exact ⟨by first | with_reducible assumption | assumption, ⟨kp_w (by decide) u68, v69, kr_w (by decide) v70, v71⟩⟩
set_option maxHeartbeats 4000000 in
theorem g_X12_comesBack {ad : List Nat} {h : hp} (L : Lay TLx ad h) {δ0 : dp} {N : Nat} (hN : 10000000 ≤ N) {a0 : Nat} {x1 : Int32} (k_a0 : q_K h.1 a0 = 12) {δ : dp} (z0 : 0 ≤ (x1).toInt) (z1 : (x1).toInt ≤ 3) (I : RI ad h.1 δ0 δ) : ok (D_X12_comesBack N h.1 a0 x1 δ) (fun r => RI ad h.1 δ0 r ∧ (kp [] δ r ∧ q_V r = q_V δ ∧ kr ad [102, 103] δ r ∧ sgk ad x1.toNatClampNeg δ r)) := by
  unfold D_X12_comesBack
  have f1 := ti_b x1
  refine ok_mono (gl_X12_comesBack_2 L hN   k_a0 _ (0 : Int32) δ I (show 0 ≤ (x1).toInt by first | with_reducible assumption | omega) (show (x1).toInt ≤ 3 by first | with_reducible assumption | omega) (show 0 ≤ (0 : Int) by first | with_reducible assumption | omega) (show (0 : Int) ≤ 2000 by first | with_reducible assumption | omega) (show 2000 - (0 : Int) < _ by omega)) (fun r2 hr3 => ?_)
  obtain ⟨i4, ⟨u5, u6, u7, u8⟩⟩ := hr3
  have u9 := kp_t kp_r u5
  have v10 : q_V r2 = q_V δ := (u6).trans rfl
  have v11 := kr_t (kr_r (ad := ad)) u7
  have v12 : sgk ad x1.toNatClampNeg δ r2 := sgk_t sgk_r u8
  exact ⟨by first | with_reducible assumption | assumption, ⟨kp_w (by decide) u9, v10, kr_w (by decide) v11, v12⟩⟩
end
section
/-! calls at the reference's houses -/
def hN (ad : List Nat) (δ : dp) (h : Nat) : Int := (q_R δ (Ad ad 106) h).toInt
/-- the other houses are as they were -/
def hkeep (ad : List Nat) (δ δ1 : dp) (H : Nat) : Prop := ∀ K : Nat, K < 4 → K ≠ H → hM ad δ1 K = hM ad δ K ∧ hN ad δ1 K = hN ad δ K ∧ ∀ i, i < 2000 → hR ad δ1 K i = hR ad δ K i
theorem hkeep.r {ad : List Nat} {δ : dp} {H : Nat} : hkeep ad δ δ H := fun _ _ _ => ⟨rfl, rfl, fun _ _ => rfl⟩
theorem hkeep.t {ad : List Nat} {δ δ1 δ2 : dp} {H : Nat} (h : hkeep ad δ δ1 H) (k : hkeep ad δ1 δ2 H) : hkeep ad δ δ2 H := fun K a b => ⟨(k K a b).1.trans (h K a b).1, (k K a b).2.1.trans (h K a b).2.1, fun i hi => ((k K a b).2.2 i hi).trans ((h K a b).2.2 i hi)⟩
theorem hsr_k {ad : List Nat} {δ δ1 : dp} {K : Nat} (hm : hM ad δ1 K = hM ad δ K) (hb : hM ad δ K ≤ 2000) (hr : ∀ i, i < 2000 → hR ad δ1 K i = hR ad δ K i) (S : hsr ad δ K) : hsr ad δ1 K := ⟨by rw [hm]; exact S.1, fun i j hij hj => by
  rw [hm] at hj
  rw [hr i (by omega), hr j (by omega)]
  exact S.2 i j hij hj⟩
theorem hmem_k {ad : List Nat} {δ δ1 : dp} {K : Nat} (hm : hM ad δ1 K = hM ad δ K) (hb : hM ad δ K ≤ 2000) (hr : ∀ i, i < 2000 → hR ad δ1 K i = hR ad δ K i) {x : Int32} : hmem ad δ1 K x ↔ hmem ad δ K x := by
  constructor
  · rintro ⟨i, h1, h2⟩
    rw [hm] at h1
    exact ⟨i, h1, by rw [← hr i (by omega)]; exact h2⟩
  · rintro ⟨i, h1, h2⟩
    exact ⟨i, by rw [hm]; exact h1, by rw [hr i (by omega)]; exact h2⟩
/-- rows 102, 103, 106 as they were: the houses are -/
theorem h_rows {ad : List Nat} {δ δ1 : dp} (h2 : q_R δ1 (Ad ad 102) = q_R δ (Ad ad 102)) (h3 : q_R δ1 (Ad ad 103) = q_R δ (Ad ad 103)) (K : Nat) : hM ad δ1 K = hM ad δ K ∧ ∀ i, hR ad δ1 K i = hR ad δ K i := ⟨by unfold hM; rw [h3], fun i => by unfold hR; rw [h2]⟩
theorem f12_notes {ad : List Nat} {h : hp} (L : Lay TLx ad h) {δ0 : dp} {N a0 H : Nat} {x1 x2 x3 : Int32} (ka : q_K h.1 a0 = 12) (hx : x1.toInt = (H : Int)) (hh : H < 4) {δ : dp} (I : RI ad h.1 δ0 δ) (hn : hN ad δ H < 1000) : ok (D_X12_notesDown N h.1 a0 x1 x2 x3 δ) (fun r => ∀ j : Nat, hN ad r j = if j = H then hN ad δ H + 1 else hN ad δ j) := by
  have hB : 0 ≤ hN ad δ H ∧ hN ad δ H ≤ 1000 := rb_106 L I H
  have e0 : (0 : Int32).toInt = 0 := rfl
  have tn := tnH hx
  have hv : (q_R δ (Ad ad 106) H).toInt = hN ad δ H := rfl
  unfold D_X12_notesDown
  obtain ⟨b, o1, _, n1, _⟩ := gO_12_15 L ka
  obtain rfl := gS_12_15 L ka o1
  obtain ⟨b, o2, _, n2, _⟩ := gO_12_16 L ka
  obtain rfl := gS_12_16 L ka o2
  obtain ⟨b, o3, _, n3⟩ := gO_12_17 L ka
  obtain rfl := gS_12_17 L ka o3
  have t1 := te_mulc (c := 1000) (n := 1000) rfl x1 (by omega) (by omega)
  have g : ∀ d : dp, q_R d (Ad ad 106) = q_R δ (Ad ad 106) → ((1000 : Int32) * x1 + q_R d (Ad ad 106) H).toInt = 1000 * x1.toInt + hN ad δ H ∧ ((1000 : Int32) * x1 + q_R d (Ad ad 106) H).toNatClampNeg < 4000 := fun d e => by
    rw [e]
    have t2 := te_add ((1000 : Int32) * x1) (q_R δ (Ad ad 106) H) (by omega) (by omega)
    have t3 := ti_tn ((1000 : Int32) * x1 + q_R δ (Ad ad 106) H)
    omega
  refine ok_at o1 ?_
  refine ok_at o3 ?_
  rw [tn]
  have g0 := g δ rfl
  refine ok_gd (fun z => ?_) ?_
  · rcases z with z | z
    · have := o_lt z; omega
    · omega
  refine ok_gd (fun z => ?_) ?_
  · rcases z with z | z
    · have := o_lt z; omega
    · omega
  refine ok_bdv (fun d1 e1 => ?_)
  have q1 : q_R d1 (Ad ad 106) = q_R δ (Ad ad 106) := by rw [e1, rR_o (ad_ne L (by decide) (by decide) (by decide))]
  have g1 := g d1 q1
  refine ok_at o2 ?_
  refine ok_at o3 ?_
  refine ok_gd (fun z => ?_) ?_
  · rcases z with z | z
    · have := o_lt z; omega
    · omega
  refine ok_gd (fun z => ?_) ?_
  · rcases z with z | z
    · have := o_lt z; omega
    · omega
  refine ok_bdv (fun d2 e2 => ?_)
  have q2 : q_R d2 (Ad ad 106) = q_R δ (Ad ad 106) := by rw [e2, rR_o (ad_ne L (by decide) (by decide) (by decide)), q1]
  refine ok_at o3 ?_
  refine ok_gd (fun z => ?_) ?_
  · rcases z with z | z
    · have := o_lt z; omega
    · omega
  refine ok_gd (fun z => ?_) ?_
  · rcases z with z | z
    · have := o_lt z; omega
    · omega
  refine ok_bdv (fun d3 e3 => ?_)
  refine ok_some (fun j => ?_)
  show (q_R d3 (Ad ad 106) j).toInt = _
  rw [e3, qR_sR, q2]
  by_cases c : j = H
  · rw [if_pos ⟨rfl, c⟩, if_pos c]
    have := te_addc (c := 1) (n := 1) rfl (q_R δ (Ad ad 106) H) (by omega) (by omega)
    omega
  · rw [if_neg (fun z => c z.2), if_neg c]
    rfl
theorem hin_k {ad : List Nat} {δ δ1 : dp} {H M p : Nat} {x : Int32} (hM2 : M < 2000) (hp : p ≤ M) (D : hin ad δ δ1 H x p M) (hn : q_R δ1 (Ad ad 106) = q_R δ (Ad ad 106)) : hkeep ad δ δ1 H := fun K a b => by
  refine ⟨?_, by unfold hN; rw [hn], fun i hi => ?_⟩
  · have := D.2 K
    rw [if_neg b] at this
    exact this
  · unfold hR
    rw [D.1, if_neg (by omega), if_neg (by omega)]
theorem hde_k {ad : List Nat} {δ δ1 : dp} {H M p : Nat} (hM2 : M ≤ 2000) (D : hde ad δ δ1 H p M) (hn : q_R δ1 (Ad ad 106) = q_R δ (Ad ad 106)) : hkeep ad δ δ1 H := fun K a b => by
  refine ⟨?_, by unfold hN; rw [hn], fun i hi => ?_⟩
  · have := D.2 K
    rw [if_neg b] at this
    exact this
  · unfold hR
    rw [D.1, if_neg (by omega)]
/-- a put that a caller makes -/
theorem f12_cput {ad : List Nat} {h : hp} (L : Lay TLx ad h) {δ0 : dp} {N : Nat} (hNN : 10000000 ≤ N) {a0 H : Nat} {x1 x : Int32} (ka : q_K h.1 a0 = 12) (hx : x1.toInt = (H : Int)) (hh : H < 4) {δ : dp} (I : RI ad h.1 δ0 δ) (S : hsr ad δ H) (pc : ¬ hmem ad δ H x → hM ad δ H < 2000 ∧ hN ad δ H < 1000) : ok (D_X12_calls N h.1 a0 x1 0 x δ) (fun r => RI ad h.1 δ0 r.2 ∧ kp [(12, 36)] δ r.2 ∧ kr ad [102, 103, 104, 105, 106, 119] δ r.2 ∧ hsr ad r.2 H ∧ hkeep ad δ r.2 H ∧ (∀ y, hmem ad δ H y → hmem ad r.2 H y) ∧ (∀ y, hmem ad r.2 H y → hmem ad δ H y ∨ y = x) ∧ ((hmem ad δ H x ∧ hM ad r.2 H = hM ad δ H ∧ hN ad r.2 H = hN ad δ H) ∨ (¬ hmem ad δ H x ∧ hmem ad r.2 H x ∧ hM ad r.2 H = hM ad δ H + 1 ∧ hN ad r.2 H = hN ad δ H + 1))) := by
  have z0 : 0 ≤ x1.toInt := by omega
  have z1 : x1.toInt ≤ 3 := by omega
  have tn := tnH hx
  unfold D_X12_calls
  refine ok_bind (k_X12_halves L hNN (a0 := a0) (x1 := x1) (x2 := 0) (x3 := x) ka z0 z1 I) (fun r hr => ?_)
  obtain ⟨i1, u1, v1, w1⟩ := hr
  have q2 := w1 102 (by decide) (by decide) (by decide)
  have q3 := w1 103 (by decide) (by decide) (by decide)
  have q6 := w1 106 (by decide) (by decide) (by decide)
  have g0 : ∀ K, hM ad r.2 K = hM ad δ K ∧ hN ad r.2 K = hN ad δ K ∧ ∀ i, hR ad r.2 K i = hR ad δ K i := fun K => ⟨(h_rows q2 q3 K).1, by unfold hN; rw [q6], (h_rows q2 q3 K).2⟩
  have hB : -1000 ≤ hM ad δ H ∧ hM ad δ H ≤ 2000 := rb_103 L I H
  have S1 : hsr ad r.2 H := hsr_k (g0 H).1 hB.2 (fun i _ => (g0 H).2.2 i) S
  have me : ∀ y, hmem ad r.2 H y ↔ hmem ad δ H y := fun y => hmem_k (g0 H).1 hB.2 (fun i _ => (g0 H).2.2 i)
  have k1 : hkeep ad δ r.2 H := fun K _ _ => ⟨(g0 K).1, (g0 K).2.1, fun i _ => (g0 K).2.2 i⟩
  refine ok_bind (f12_isThere L hNN (x := x) ka hx hh i1 S1) (fun r2 hr2 => ?_)
  obtain ⟨e, hm⟩ := hr2
  rw [e]
  refine ok_ite (fun _ => ?_) (fun c => absurd rfl c)
  rcases hm with ⟨e1, m1⟩ | ⟨e1, m1⟩
  · rw [e1]
    refine ok_ite (fun c => absurd c (by decide)) (fun _ => ?_)
    unfold J_X12_calls_39
    refine ok_ite (fun c => absurd c (by decide)) (fun _ => ?_)
    unfold J_X12_calls_62
    exact ok_some ⟨i1, kp_w (by decide) u1, kr_w (by decide) w1, S1, k1, fun y hy => (me y).mpr hy, fun y hy => Or.inl ((me y).mp hy), Or.inl ⟨(me x).mp m1, (g0 H).1, (g0 H).2.1⟩⟩
  · rw [e1]
    refine ok_ite (fun _ => ?_) (fun c => absurd rfl c)
    have nm : ¬ hmem ad δ H x := fun z => m1 ((me x).mpr z)
    obtain ⟨pc1, pc2⟩ := pc nm
    obtain ⟨M, hMM⟩ : ∃ M : Nat, hM ad r.2 H = (M : Int) := ⟨(hM ad r.2 H).toNat, by have := S1.1; omega⟩
    have gm := (g0 H).1
    refine ok_bind (ok_and (k_X12_comes L hNN (a0 := a0) (x1 := x1) (x2 := x) ka z0 z1 (by rw [tn]; show hM ad r.2 H < 2000; omega) i1) (f12_comes L hNN (x := x) ka hx hh i1 S1 hMM (by omega))) (fun r3 hr3 => ?_)
    obtain ⟨⟨i3, ⟨u3, v3, w3⟩, _⟩, p, P, D⟩ := hr3
    have pm : p ≤ M := by have := P.1; omega
    obtain ⟨S3, mm, mx, mb⟩ := hin_s S1 hMM (by omega) P m1 D
    have n3 := w3 106 (by decide) (by decide) (by decide)
    have k3 := hin_k (by omega) pm D n3
    have m3 : hM ad r3 H = (M : Int) + 1 := by
      have := D.2 H
      rw [if_pos rfl] at this
      exact this
    have nn : hN ad r3 H = hN ad δ H := by rw [← (g0 H).2.1]; unfold hN; rw [n3]
    refine ok_bind (ok_and (k_X12_notesDown L hNN (a0 := a0) (x1 := x1) (x2 := x) (x3 := 1) ka z0 z1 (by rw [tn]; show hN ad r3 H < 1000; omega) i3) (f12_notes L ka hx hh i3 (by omega))) (fun r4 hr4 => ?_)
    obtain ⟨⟨i4, ⟨u4, v4, w4⟩, _⟩, D4⟩ := hr4
    have a2 := w4 102 (by decide) (by decide) (by decide)
    have a3 := w4 103 (by decide) (by decide) (by decide)
    have g4 := h_rows a2 a3
    have hB3 : -1000 ≤ hM ad r3 H ∧ hM ad r3 H ≤ 2000 := rb_103 L i3 H
    have S4 : hsr ad r4 H := hsr_k (g4 H).1 hB3.2 (fun i _ => (g4 H).2 i) S3
    have me4 : ∀ y, hmem ad r4 H y ↔ hmem ad r3 H y := fun y => hmem_k (g4 H).1 hB3.2 (fun i _ => (g4 H).2 i)
    have k4 : hkeep ad r3 r4 H := fun K _ b => ⟨(g4 K).1, by rw [D4, if_neg b], fun i _ => (g4 K).2 i⟩
    unfold J_X12_calls_39
    refine ok_ite (fun c => absurd c (by decide)) (fun _ => ?_)
    unfold J_X12_calls_62
    refine ok_some ⟨i4, kp_w (by decide) (kp_t (kp_t u1 u3) u4), kr_w (by decide) (kr_t (kr_t w1 w3) w4), S4, (k1.t k3).t k4, fun y hy => (me4 y).mpr (mm y ((me y).mpr hy)), fun y hy => (mb y ((me4 y).mp hy)).imp (fun z => (me y).mp z) id, Or.inr ⟨nm, (me4 x).mpr mx, ?_, ?_⟩⟩
    · show hM ad r4 H = _
      rw [(g4 H).1]; omega
    · show hN ad r4 H = _
      rw [D4, if_pos rfl]; omega
/-- a drop that a caller makes -/
theorem f12_cdrop {ad : List Nat} {h : hp} (L : Lay TLx ad h) {δ0 : dp} {N : Nat} (hNN : 10000000 ≤ N) {a0 H : Nat} {x1 x : Int32} (ka : q_K h.1 a0 = 12) (hx : x1.toInt = (H : Int)) (hh : H < 4) {δ : dp} (I : RI ad h.1 δ0 δ) (S : hsr ad δ H) (pc : hmem ad δ H x → hN ad δ H < 1000) : ok (D_X12_calls N h.1 a0 x1 1 x δ) (fun r => RI ad h.1 δ0 r.2 ∧ kp [(12, 36)] δ r.2 ∧ kr ad [102, 103, 104, 105, 106, 119] δ r.2 ∧ hsr ad r.2 H ∧ hkeep ad δ r.2 H ∧ (∀ y, hmem ad r.2 H y → hmem ad δ H y) ∧ ((¬ hmem ad δ H x ∧ hM ad r.2 H = hM ad δ H ∧ hN ad r.2 H = hN ad δ H) ∨ (hmem ad δ H x ∧ hM ad r.2 H = hM ad δ H - 1 ∧ hN ad r.2 H = hN ad δ H + 1))) := by
  have z0 : 0 ≤ x1.toInt := by omega
  have z1 : x1.toInt ≤ 3 := by omega
  have tn := tnH hx
  unfold D_X12_calls
  refine ok_bind (k_X12_halves L hNN (a0 := a0) (x1 := x1) (x2 := 1) (x3 := x) ka z0 z1 I) (fun r hr => ?_)
  obtain ⟨i1, u1, v1, w1⟩ := hr
  have q2 := w1 102 (by decide) (by decide) (by decide)
  have q3 := w1 103 (by decide) (by decide) (by decide)
  have q6 := w1 106 (by decide) (by decide) (by decide)
  have g0 : ∀ K, hM ad r.2 K = hM ad δ K ∧ hN ad r.2 K = hN ad δ K ∧ ∀ i, hR ad r.2 K i = hR ad δ K i := fun K => ⟨(h_rows q2 q3 K).1, by unfold hN; rw [q6], (h_rows q2 q3 K).2⟩
  have hB : -1000 ≤ hM ad δ H ∧ hM ad δ H ≤ 2000 := rb_103 L I H
  have S1 : hsr ad r.2 H := hsr_k (g0 H).1 hB.2 (fun i _ => (g0 H).2.2 i) S
  have me : ∀ y, hmem ad r.2 H y ↔ hmem ad δ H y := fun y => hmem_k (g0 H).1 hB.2 (fun i _ => (g0 H).2.2 i)
  have k1 : hkeep ad δ r.2 H := fun K _ _ => ⟨(g0 K).1, (g0 K).2.1, fun i _ => (g0 K).2.2 i⟩
  refine ok_bind (f12_isThere L hNN (x := x) ka hx hh i1 S1) (fun r2 hr2 => ?_)
  obtain ⟨e, hm⟩ := hr2
  rw [e]
  refine ok_ite (fun c => absurd c (by decide)) (fun _ => ?_)
  unfold J_X12_calls_39
  refine ok_ite (fun _ => ?_) (fun c => absurd rfl c)
  rcases hm with ⟨e1, m1⟩ | ⟨e1, m1⟩
  · rw [e1]
    refine ok_ite (fun c => absurd c (by decide)) (fun _ => ?_)
    have hm0 : hmem ad δ H x := (me x).mp m1
    have pc2 := pc hm0
    obtain ⟨M, hMM⟩ : ∃ M : Nat, hM ad r.2 H = (M : Int) := ⟨(hM ad r.2 H).toNat, by have := S1.1; omega⟩
    have gm := (g0 H).1
    have gp : 1 ≤ hM ad r.2 H := by
      obtain ⟨i, h1, _⟩ := m1
      omega
    refine ok_bind (ok_and (k_X12_leaves L hNN (a0 := a0) (x1 := x1) (x2 := x) ka z0 z1 (by rw [tn]; show -999 ≤ hM ad r.2 H; omega) i1) (f12_leaves L hNN (x := x) ka hx hh i1 S1 hMM m1)) (fun r3 hr3 => ?_)
    obtain ⟨⟨i3, ⟨u3, v3, w3⟩, _⟩, p, pM, _, D⟩ := hr3
    obtain ⟨S3, mm⟩ := hde_s S1 hMM (by omega) pM D
    have n3 := w3 106 (by decide) (by decide) (by decide)
    have k3 := hde_k (by omega) D n3
    have m3 : hM ad r3 H = (M : Int) - 1 := by
      have := D.2 H
      rw [if_pos rfl] at this
      exact this
    have nn : hN ad r3 H = hN ad δ H := by rw [← (g0 H).2.1]; unfold hN; rw [n3]
    refine ok_bind (ok_and (k_X12_notesDown L hNN (a0 := a0) (x1 := x1) (x2 := x) (x3 := 0) ka z0 z1 (by rw [tn]; show hN ad r3 H < 1000; omega) i3) (f12_notes L ka hx hh i3 (by omega))) (fun r4 hr4 => ?_)
    obtain ⟨⟨i4, ⟨u4, v4, w4⟩, _⟩, D4⟩ := hr4
    have a2 := w4 102 (by decide) (by decide) (by decide)
    have a3 := w4 103 (by decide) (by decide) (by decide)
    have g4 := h_rows a2 a3
    have hB3 : -1000 ≤ hM ad r3 H ∧ hM ad r3 H ≤ 2000 := rb_103 L i3 H
    have S4 : hsr ad r4 H := hsr_k (g4 H).1 hB3.2 (fun i _ => (g4 H).2 i) S3
    have me4 : ∀ y, hmem ad r4 H y ↔ hmem ad r3 H y := fun y => hmem_k (g4 H).1 hB3.2 (fun i _ => (g4 H).2 i)
    have k4 : hkeep ad r3 r4 H := fun K _ b => ⟨(g4 K).1, by rw [D4, if_neg b], fun i _ => (g4 K).2 i⟩
    unfold J_X12_calls_62
    refine ok_some ⟨i4, kp_w (by decide) (kp_t (kp_t u1 u3) u4), kr_w (by decide) (kr_t (kr_t w1 w3) w4), S4, (k1.t k3).t k4, fun y hy => (me y).mp (mm y ((me4 y).mp hy)), Or.inr ⟨hm0, ?_, ?_⟩⟩
    · show hM ad r4 H = _
      rw [(g4 H).1]; omega
    · show hN ad r4 H = _
      rw [D4, if_pos rfl]; omega
  · rw [e1]
    refine ok_ite (fun _ => ?_) (fun c => absurd rfl c)
    unfold J_X12_calls_62
    exact ok_some ⟨i1, kp_w (by decide) u1, kr_w (by decide) w1, S1, k1, fun y hy => (me y).mp hy, Or.inl ⟨fun z => m1 ((me x).mpr z), (g0 H).1, (g0 H).2.1⟩⟩
end
