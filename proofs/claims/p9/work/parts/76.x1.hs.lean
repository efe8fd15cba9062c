/-! the reference's houses as sorted rows -/
def hR (ad : List Nat) (δ : dp) (h i : Nat) : Int := (q_R δ (Ad ad 102) (2000 * h + i)).toInt
def hM (ad : List Nat) (δ : dp) (h : Nat) : Int := (q_R δ (Ad ad 103) h).toInt
def hsr (ad : List Nat) (δ : dp) (h : Nat) : Prop := 0 ≤ hM ad δ h ∧ ∀ i j : Nat, i < j → (j : Int) < hM ad δ h → hR ad δ h i < hR ad δ h j
def hpl (ad : List Nat) (δ : dp) (h : Nat) (x : Int32) (p : Nat) : Prop := (p : Int) ≤ hM ad δ h ∧ (∀ i : Nat, i < p → hR ad δ h i < x.toInt) ∧ ∀ i : Nat, p ≤ i → (i : Int) < hM ad δ h → x.toInt ≤ hR ad δ h i
def hmem (ad : List Nat) (δ : dp) (h : Nat) (x : Int32) : Prop := ∃ i : Nat, (i : Int) < hM ad δ h ∧ hR ad δ h i = x.toInt
theorem hpl_u {ad : List Nat} {δ : dp} {h : Nat} {x : Int32} {p q : Nat} (P : hpl ad δ h x p) (Q : hpl ad δ h x q) : p = q := by
  obtain ⟨p1, p2, p3⟩ := P
  obtain ⟨q1, q2, q3⟩ := Q
  rcases (show p < q ∨ p = q ∨ q < p by omega) with h | h | h
  · have := q2 p h
    have := p3 p (Nat.le_refl _) (by omega)
    omega
  · exact h
  · have := p2 q h
    have := q3 q (Nat.le_refl _) (by omega)
    omega
theorem hpl_mem {ad : List Nat} {δ : dp} {h : Nat} {x : Int32} {p : Nat} (S : hsr ad δ h) (P : hpl ad δ h x p) : hmem ad δ h x ↔ (p : Int) < hM ad δ h ∧ hR ad δ h p = x.toInt := by
  constructor
  · rintro ⟨i, h1, h2⟩
    rcases (show i < p ∨ i = p ∨ p < i by omega) with c | c | c
    · have := P.2.1 i c
      omega
    · subst c; exact ⟨h1, h2⟩
    · have := S.2 p i c h1
      have := P.2.2 p (Nat.le_refl _) (by omega)
      omega
  · rintro ⟨h1, h2⟩
    exact ⟨p, h1, h2⟩
theorem ix2 {x1 : Int32} {h : Nat} (hx : x1.toInt = (h : Int)) (hh : h < 4) {m : Int32} {k : Nat} (hm : m.toInt = (k : Int)) (hk : k < 2000) : ((2000 : Int32) * x1 + m).toInt = ((2000 * h + k : Nat) : Int) ∧ ((2000 : Int32) * x1 + m).toNatClampNeg = 2000 * h + k := by
  have t1 := te_mulc (c := 2000) (n := 2000) rfl x1 (by omega) (by omega)
  have t2 := te_add ((2000 : Int32) * x1) m (by omega) (by omega)
  have t3 := ti_tn ((2000 : Int32) * x1 + m)
  omega
theorem fl12_place {ad : List Nat} {h : hp} (L : Lay TLx ad h) {δ0 : dp} {N a0 H : Nat} {x1 x : Int32} (ka : q_K h.1 a0 = 12) (hx : x1.toInt = (H : Int)) (hh : H < 4) {δ : dp} (I : RI ad h.1 δ0 δ) (S : hsr ad δ H) : ∀ (n : Nat) (x3 x4 : Int32), 0 ≤ x3.toInt → x3.toInt ≤ x4.toInt → x4.toInt ≤ hM ad δ H → (∀ i : Nat, (i : Int) < x3.toInt → hR ad δ H i < x.toInt) → (∀ i : Nat, x4.toInt ≤ (i : Int) → (i : Int) < hM ad δ H → x.toInt ≤ hR ad δ H i) → x4.toInt - x3.toInt < (n : Int) → ok (L_X12_place_10 N h.1 a0 x1 x n x3 x4 δ) (fun r => r.2 = δ ∧ ∃ p : Nat, r.1.toInt = (p : Int) ∧ hpl ad δ H x p) := by
  have hB : -1000 ≤ hM ad δ H ∧ hM ad δ H ≤ 2000 := rb_103 L I H
  intro n
  induction n with
  | zero => intro x3 x4 h1 h2 h3 h4 h5 h6; exfalso; omega
  | succ n ih =>
    intro x3 x4 h1 h2 h3 h4 h5 h6
    unfold L_X12_place_10
    obtain ⟨b, ob, _, nb, _⟩ := gO_12_13 L ka
    obtain rfl := gS_12_13 L ka ob
    have e0 : (0 : Int32).toInt = 0 := rfl
    refine ok_ite (fun c => ?_) (fun c => ?_)
    · have c1 := o_le c
      exact ok_some ⟨rfl, x3.toInt.toNat, (show x3.toInt = ((x3.toInt.toNat : Nat) : Int) by omega), by omega, fun i hi => h4 i (by omega), fun i hi hm => h5 i (by omega) hm⟩
    · have c1 := o_nle c
      refine ok_biv (fun m em => ?_)
      have hm : m.toInt = (x3.toInt + x4.toInt) / 2 := by
        rw [em]
        have t := te_add x3 x4 (by omega) (by omega)
        have t2 := ti_div (c := 2) (n := 2) rfl (by decide) (x3 + x4) (by omega)
        omega
      obtain ⟨k, hk⟩ : ∃ k : Nat, m.toInt = (k : Int) := ⟨m.toInt.toNat, by omega⟩
      obtain ⟨i1, i2⟩ := ix2 hx hh hk (by omega)
      refine ok_at ob ?_
      refine ok_gd (fun z => ?_) ?_
      · rcases z with z | z
        · have := o_lt z; omega
        · rw [i2] at z; omega
      rw [i2]
      refine ok_ite (fun z => ?_) (fun z => ?_)
      · have z1 : x.toInt ≤ hR ad δ H k := o_le z
        unfold J_X12_place_53
        refine ih x3 m h1 (by omega) (by omega) h4 (fun i hi hq => ?_) (by omega)
        by_cases e : i = k
        · rw [e]; exact z1
        · have := S.2 k i (by omega) hq
          omega
      · have z1 : hR ad δ H k < x.toInt := o_nle z
        refine ok_biv (fun y ey => ?_)
        have hy : y.toInt = m.toInt + 1 := by rw [ey]; exact (te_addc (c := 1) (n := 1) rfl m (by omega) (by omega)).1
        unfold J_X12_place_53
        refine ih y x4 (by omega) (by omega) h3 (fun i hi => ?_) h5 (by omega)
        by_cases e : i = k
        · rw [e]; exact z1
        · have := S.2 i k (by omega) (by omega)
          omega
theorem tnH {x1 : Int32} {H : Nat} (hx : x1.toInt = (H : Int)) : x1.toNatClampNeg = H := by
  have := ti_tn x1
  omega
theorem f12_place {ad : List Nat} {h : hp} (L : Lay TLx ad h) {δ0 : dp} {N : Nat} (hN : 10000000 ≤ N) {a0 H : Nat} {x1 x : Int32} (ka : q_K h.1 a0 = 12) (hx : x1.toInt = (H : Int)) (hh : H < 4) {δ : dp} (I : RI ad h.1 δ0 δ) (S : hsr ad δ H) : ok (D_X12_place N h.1 a0 x1 x δ) (fun r => r.2 = δ ∧ ∃ p : Nat, r.1.toInt = (p : Int) ∧ hpl ad δ H x p) := by
  have hB : -1000 ≤ hM ad δ H ∧ hM ad δ H ≤ 2000 := rb_103 L I H
  have s0 := S.1
  have e0 : (0 : Int32).toInt = 0 := rfl
  unfold D_X12_place
  obtain ⟨b, ob, _, nb⟩ := gO_12_14 L ka
  obtain rfl := gS_12_14 L ka ob
  refine ok_at ob ?_
  have tn := tnH hx
  refine ok_gd (fun z => ?_) ?_
  · rcases z with z | z
    · have := o_lt z; omega
    · omega
  refine ok_biv (fun m em => ?_)
  have hm : m.toInt = hM ad δ H := by rw [em, tn]; rfl
  exact fl12_place L ka hx hh I S N 0 m (by omega) (by omega) (by omega) (fun i hi => by omega) (fun i h1 h2 => by omega) (by omega)
theorem f12_isThere {ad : List Nat} {h : hp} (L : Lay TLx ad h) {δ0 : dp} {N : Nat} (hN : 10000000 ≤ N) {a0 H : Nat} {x1 x : Int32} (ka : q_K h.1 a0 = 12) (hx : x1.toInt = (H : Int)) (hh : H < 4) {δ : dp} (I : RI ad h.1 δ0 δ) (S : hsr ad δ H) : ok (D_X12_isThere N h.1 a0 x1 x δ) (fun r => r.2 = δ ∧ ((r.1 = 1 ∧ hmem ad δ H x) ∨ (r.1 = 0 ∧ ¬ hmem ad δ H x))) := by
  have hB : -1000 ≤ hM ad δ H ∧ hM ad δ H ≤ 2000 := rb_103 L I H
  have e0 : (0 : Int32).toInt = 0 := rfl
  unfold D_X12_isThere
  refine ok_bind (f12_place L hN ka hx hh I S) (fun r hr => ?_)
  obtain ⟨e, p, hp, P⟩ := hr
  rw [e]
  have tn := tnH hx
  have pm := hpl_mem S P
  have p1 := P.1
  obtain ⟨b, ob, _, nb⟩ := gO_12_14 L ka
  obtain rfl := gS_12_14 L ka ob
  refine ok_at ob ?_
  refine ok_gd (fun z => ?_) ?_
  · rcases z with z | z
    · have := o_lt z; omega
    · omega
  rw [tn]
  refine ok_ite (fun c => ?_) (fun c => ?_)
  · have c1 : hM ad δ H ≤ r.1.toInt := o_le c
    unfold J_X12_isThere_37 J_X12_isThere_38
    refine ok_gp (Or.inl rfl) ?_
    exact ok_some ⟨rfl, Or.inr ⟨rfl, fun m => by have := (pm.mp m).1; omega⟩⟩
  · have c1 : r.1.toInt < hM ad δ H := o_nle c
    obtain ⟨b, ob, _, nb, _⟩ := gO_12_13 L ka
    obtain rfl := gS_12_13 L ka ob
    refine ok_at ob ?_
    obtain ⟨i1, i2⟩ := ix2 hx hh hp (by omega)
    refine ok_gd (fun z => ?_) ?_
    · rcases z with z | z
      · have := o_lt z; omega
      · rw [i2] at z; omega
    rw [i2]
    refine ok_ite (fun z => ?_) (fun z => ?_)
    · unfold J_X12_isThere_38
      refine ok_gp (Or.inr rfl) ?_
      refine ok_some ⟨rfl, Or.inl ⟨rfl, pm.mpr ⟨by omega, ?_⟩⟩⟩
      show (q_R δ (Ad ad 102) (2000 * H + p)).toInt = x.toInt
      rw [z]
    · unfold J_X12_isThere_37 J_X12_isThere_38
      refine ok_gp (Or.inl rfl) ?_
      exact ok_some ⟨rfl, Or.inr ⟨rfl, fun m => z (i_eq (pm.mp m).2)⟩⟩
/-- rows behind a coming, behind a leaving -/
def hin (ad : List Nat) (δ δ1 : dp) (H : Nat) (x : Int32) (p M : Nat) : Prop := (∀ i : Nat, q_R δ1 (Ad ad 102) i = if i = 2000 * H + p then x else if 2000 * H + p < i ∧ i ≤ 2000 * H + M then q_R δ (Ad ad 102) (i - 1) else q_R δ (Ad ad 102) i) ∧ ∀ j : Nat, (q_R δ1 (Ad ad 103) j).toInt = if j = H then (M : Int) + 1 else (q_R δ (Ad ad 103) j).toInt
def hde (ad : List Nat) (δ δ1 : dp) (H : Nat) (p M : Nat) : Prop := (∀ i : Nat, q_R δ1 (Ad ad 102) i = if 2000 * H + p ≤ i ∧ i + 1 < 2000 * H + M then q_R δ (Ad ad 102) (i + 1) else q_R δ (Ad ad 102) i) ∧ ∀ j : Nat, (q_R δ1 (Ad ad 103) j).toInt = if j = H then (M : Int) - 1 else (q_R δ (Ad ad 103) j).toInt
theorem fl12_comes {ad : List Nat} {h : hp} (L : Lay TLx ad h) {N a0 H p M : Nat} {x1 x x3 : Int32} (ka : q_K h.1 a0 = 12) (hx : x1.toInt = (H : Int)) (hh : H < 4) {δ : dp} (hM1 : hM ad δ H = (M : Int)) (hM2 : M < 2000) (h3 : x3.toInt = ((2000 * H + p : Nat) : Int)) (hp : p ≤ M) : ∀ (n k : Nat) (x4 : Int32) (δ1 : dp), x4.toInt = ((2000 * H + k : Nat) : Int) → p ≤ k → k ≤ M → (∀ i : Nat, q_R δ1 (Ad ad 102) i = if 2000 * H + k < i ∧ i ≤ 2000 * H + M then q_R δ (Ad ad 102) (i - 1) else q_R δ (Ad ad 102) i) → q_R δ1 (Ad ad 103) = q_R δ (Ad ad 103) → k - p < n → ok (L_X12_comes_27 N h.1 a0 x1 x n x3 x4 δ1) (fun r => hin ad δ r H x p M) := by
  intro n
  induction n with
  | zero => intro k x4 δ1 h4 h5 h6 h7 h8 h9; exfalso; omega
  | succ n ih =>
    intro k x4 δ1 h4 h5 h6 h7 h8 h9
    have e0 : (0 : Int32).toInt = 0 := rfl
    have tn := tnH hx
    have t3 := ti_tn x3
    have t4 := ti_tn x4
    unfold L_X12_comes_27
    obtain ⟨b, ob, _, nb, _⟩ := gO_12_13 L ka
    obtain rfl := gS_12_13 L ka ob
    obtain ⟨b, om, _, nm⟩ := gO_12_14 L ka
    obtain rfl := gS_12_14 L ka om
    refine ok_ite (fun c => ?_) (fun c => ?_)
    · have c1 := o_le c
      obtain rfl : k = p := by omega
      refine ok_at ob ?_
      refine ok_gd (fun z => ?_) ?_
      · rcases z with z | z
        · have := o_lt z; omega
        · omega
      refine ok_bdv (fun d1 e1 => ?_)
      refine ok_at om ?_
      refine ok_gd (fun z => ?_) ?_
      · rcases z with z | z
        · have := o_lt z; omega
        · omega
      refine ok_gd (fun z => ?_) ?_
      · rcases z with z | z
        · have := o_lt z; omega
        · omega
      refine ok_bdv (fun d2 e2 => ?_)
      have hn : Ad ad 103 ≠ Ad ad 102 := ad_ne L (by decide) (by decide) (by decide)
      have g1 : q_R d1 (Ad ad 103) = q_R δ (Ad ad 103) := by rw [e1, rR_o hn, h8]
      refine ok_some ⟨fun i => ?_, fun j => ?_⟩
      · rw [e2, rR_o hn.symm, e1, qR_sR]
        by_cases c3 : i = 2000 * H + k
        · rw [if_pos ⟨rfl, by omega⟩, if_pos c3]
        · rw [if_neg (fun z => c3 (by omega)), if_neg c3, h7]
      · rw [e2, qR_sR, tn]
        by_cases c3 : j = H
        · rw [if_pos ⟨rfl, c3⟩, if_pos c3, g1]
          have hv : (q_R δ (Ad ad 103) H).toInt = (M : Int) := hM1
          have := te_addc (c := 1) (n := 1) rfl (q_R δ (Ad ad 103) H) (by omega) (by omega)
          omega
        · rw [if_neg (fun z => c3 z.2), if_neg c3, g1]
    · have c1 := o_nle c
      refine ok_at ob ?_
      refine ok_at ob ?_
      have t5 := te_subc (c := 1) (n := 1) rfl x4 (by omega) (by omega)
      have t6 := ti_tn (x4 - 1)
      refine ok_gd (fun z => ?_) ?_
      · rcases z with z | z
        · have := o_lt z; omega
        · omega
      refine ok_gd (fun z => ?_) ?_
      · rcases z with z | z
        · have := o_lt z; omega
        · omega
      refine ok_bdv (fun d1 e1 => ?_)
      refine ok_biv (fun y ey => ?_)
      have hy : y.toInt = x4.toInt + -1 := by rw [ey]; exact (te_addc (c := -1) (n := -1) (by decide) x4 (by omega) (by omega)).1
      refine ih (k - 1) y d1 (by omega) (by omega) (by omega) (fun i => ?_) ?_ (by omega)
      · rw [e1, qR_sR]
        by_cases c3 : i = 2000 * H + k
        · rw [if_pos ⟨rfl, by omega⟩, if_pos (by omega), h7, if_neg (by omega)]
          congr 1
          omega
        · rw [if_neg (fun z => c3 (by omega)), h7]
          by_cases c4 : 2000 * H + k < i ∧ i ≤ 2000 * H + M
          · rw [if_pos c4, if_pos (by omega)]
          · rw [if_neg c4, if_neg (by omega)]
      · rw [e1, rR_o (ad_ne L (by decide) (by decide) (by decide)), h8]
theorem f12_comes {ad : List Nat} {h : hp} (L : Lay TLx ad h) {δ0 : dp} {N : Nat} (hN : 10000000 ≤ N) {a0 H M : Nat} {x1 x : Int32} (ka : q_K h.1 a0 = 12) (hx : x1.toInt = (H : Int)) (hh : H < 4) {δ : dp} (I : RI ad h.1 δ0 δ) (S : hsr ad δ H) (hM1 : hM ad δ H = (M : Int)) (hM2 : M < 2000) : ok (D_X12_comes N h.1 a0 x1 x δ) (fun r => ∃ p, hpl ad δ H x p ∧ hin ad δ r H x p M) := by
  have e0 : (0 : Int32).toInt = 0 := rfl
  unfold D_X12_comes
  refine ok_bind (f12_place L hN ka hx hh I S) (fun r hr => ?_)
  obtain ⟨e, p, hp, P⟩ := hr
  rw [e]
  have tn := tnH hx
  have p1 := P.1
  have hp2 : p ≤ M := by omega
  obtain ⟨i1, i2⟩ := ix2 hx hh hp (by omega)
  refine ok_biv (fun q eq => ?_)
  obtain ⟨b, om, _, nm⟩ := gO_12_14 L ka
  obtain rfl := gS_12_14 L ka om
  refine ok_at om ?_
  refine ok_gd (fun z => ?_) ?_
  · rcases z with z | z
    · have := o_lt z; omega
    · omega
  rw [tn]
  refine ok_biv (fun k ek => ?_)
  obtain ⟨j1, j2⟩ := ix2 hx hh (m := q_R δ (Ad ad 103) H) (k := M) hM1 hM2
  refine ok_mono (fl12_comes L ka hx hh hM1 hM2 (by rw [eq]; exact i1) hp2 N M k δ (by rw [ek]; exact j1) hp2 (Nat.le_refl _) (fun i => by rw [if_neg (by omega)]) rfl (by omega)) (fun r h => ⟨p, P, h⟩)
theorem fl12_leaves {ad : List Nat} {h : hp} (L : Lay TLx ad h) {N a0 H p M : Nat} {x1 x : Int32} (ka : q_K h.1 a0 = 12) (hx : x1.toInt = (H : Int)) (hh : H < 4) {δ : dp} (hM2 : M ≤ 2000) (hM0 : 1 ≤ M) : ∀ (n k : Nat) (x3 : Int32) (δ1 : dp), x3.toInt = ((2000 * H + k : Nat) : Int) → p ≤ k → k < M → (∀ i : Nat, q_R δ1 (Ad ad 102) i = if 2000 * H + p ≤ i ∧ i < 2000 * H + k then q_R δ (Ad ad 102) (i + 1) else q_R δ (Ad ad 102) i) → (∀ j : Nat, (q_R δ1 (Ad ad 103) j).toInt = if j = H then (M : Int) - 1 else (q_R δ (Ad ad 103) j).toInt) → M - k < n → ok (L_X12_leaves_23 N h.1 a0 x1 x n x3 δ1) (fun r => hde ad δ r H p M) := by
  intro n
  induction n with
  | zero => intro k x4 δ1 h4 h5 h6 h7 h8 h9; exfalso; omega
  | succ n ih =>
    intro k x3 δ1 h4 h5 h6 h7 h8 h9
    have e0 : (0 : Int32).toInt = 0 := rfl
    have tn := tnH hx
    have t3 := ti_tn x3
    unfold L_X12_leaves_23
    obtain ⟨b, ob, _, nb, _⟩ := gO_12_13 L ka
    obtain rfl := gS_12_13 L ka ob
    obtain ⟨b, om, _, nm⟩ := gO_12_14 L ka
    obtain rfl := gS_12_14 L ka om
    refine ok_at om ?_
    refine ok_gd (fun z => ?_) ?_
    · rcases z with z | z
      · have := o_lt z; omega
      · omega
    rw [tn]
    have hv : (q_R δ1 (Ad ad 103) H).toInt = ((M - 1 : Nat) : Int) := by
      rw [h8, if_pos rfl]; omega
    obtain ⟨j1, j2⟩ := ix2 hx hh hv (by omega)
    refine ok_ite (fun c => ?_) (fun c => ?_)
    · have c1 := o_le c
      refine ok_some ⟨fun i => ?_, h8⟩
      rw [h7]
      by_cases c3 : 2000 * H + p ≤ i ∧ i < 2000 * H + k
      · rw [if_pos c3, if_pos (by omega)]
      · rw [if_neg c3, if_neg (by omega)]
    · have c1 := o_nle c
      refine ok_at ob ?_
      refine ok_at ob ?_
      have t5 := te_addc (c := 1) (n := 1) rfl x3 (by omega) (by omega)
      have t6 := ti_tn (x3 + 1)
      refine ok_gd (fun z => ?_) ?_
      · rcases z with z | z
        · have := o_lt z; omega
        · omega
      refine ok_gd (fun z => ?_) ?_
      · rcases z with z | z
        · have := o_lt z; omega
        · omega
      refine ok_bdv (fun d1 e1 => ?_)
      refine ok_biv (fun y ey => ?_)
      have hy : y.toInt = x3.toInt + 1 := by rw [ey]; exact t5.1
      refine ih (k + 1) y d1 (by omega) (by omega) (by omega) (fun i => ?_) (fun j => ?_) (by omega)
      · rw [e1, qR_sR]
        by_cases c3 : i = 2000 * H + k
        · rw [if_pos ⟨rfl, by omega⟩, if_pos (by omega), h7, if_neg (by omega)]
          congr 1
          omega
        · rw [if_neg (fun z => c3 (by omega)), h7]
          by_cases c4 : 2000 * H + p ≤ i ∧ i < 2000 * H + k
          · rw [if_pos c4, if_pos (by omega)]
          · rw [if_neg c4, if_neg (by omega)]
      · rw [e1, rR_o (ad_ne L (by decide) (by decide) (by decide)), h8]
theorem f12_leaves {ad : List Nat} {h : hp} (L : Lay TLx ad h) {δ0 : dp} {N : Nat} (hN : 10000000 ≤ N) {a0 H M : Nat} {x1 x : Int32} (ka : q_K h.1 a0 = 12) (hx : x1.toInt = (H : Int)) (hh : H < 4) {δ : dp} (I : RI ad h.1 δ0 δ) (S : hsr ad δ H) (hM1 : hM ad δ H = (M : Int)) (mm : hmem ad δ H x) : ok (D_X12_leaves N h.1 a0 x1 x δ) (fun r => ∃ p : Nat, p < M ∧ hR ad δ H p = x.toInt ∧ hde ad δ r H p M) := by
  have hB : -1000 ≤ hM ad δ H ∧ hM ad δ H ≤ 2000 := rb_103 L I H
  have e0 : (0 : Int32).toInt = 0 := rfl
  have tn := tnH hx
  obtain ⟨p, p1, p2⟩ := mm
  unfold D_X12_leaves
  obtain ⟨b, om, _, nm⟩ := gO_12_14 L ka
  obtain rfl := gS_12_14 L ka om
  refine ok_at om ?_
  refine ok_gd (fun z => ?_) ?_
  · rcases z with z | z
    · have := o_lt z; omega
    · omega
  refine ok_gd (fun z => ?_) ?_
  · rcases z with z | z
    · have := o_lt z; omega
    · omega
  refine ok_bdv (fun d1 e1 => ?_)
  have hv : (q_R δ (Ad ad 103) H).toInt = (M : Int) := hM1
  have ts := te_subc (c := 1) (n := 1) rfl (q_R δ (Ad ad 103) H) (by omega) (by omega)
  have I1 : RI ad h.1 δ0 d1 := by rw [e1, tn]; exact cr_103 L I (by omega) (by omega)
  have g8 : ∀ j : Nat, (q_R d1 (Ad ad 103) j).toInt = if j = H then (M : Int) - 1 else (q_R δ (Ad ad 103) j).toInt := fun j => by
    rw [e1, qR_sR, tn]
    by_cases c3 : j = H
    · rw [if_pos ⟨rfl, c3⟩, if_pos c3, ts.1]; omega
    · rw [if_neg (fun z => c3 z.2), if_neg c3]
  have g7 : q_R d1 (Ad ad 102) = q_R δ (Ad ad 102) := by rw [e1, rR_o (ad_ne L (by decide) (by decide) (by decide))]
  have gR : ∀ i, hR ad d1 H i = hR ad δ H i := fun i => by unfold hR; rw [g7]
  have gM : hM ad d1 H = (M : Int) - 1 := by
    have := g8 H
    rw [if_pos rfl] at this
    exact this
  have S1 : hsr ad d1 H := ⟨by omega, fun i j h1 h2 => by rw [gR, gR]; exact S.2 i j h1 (by omega)⟩
  refine ok_bind (f12_place L hN ka hx hh I1 S1) (fun r hr => ?_)
  obtain ⟨e, q, hq, Q⟩ := hr
  rw [e]
  obtain rfl : q = p := by
    have q1 := Q.1
    rcases (show q < p ∨ q = p ∨ p < q by omega) with c | c | c
    · have := Q.2.2 q (Nat.le_refl _) (by omega)
      rw [gR] at this
      have := S.2 q p c p1
      omega
    · exact c
    · have := Q.2.1 p c
      rw [gR] at this
      omega
  have q1 := Q.1
  obtain ⟨i1, i2⟩ := ix2 hx hh hq (by omega)
  refine ok_biv (fun k ek => ?_)
  refine ok_mono (fl12_leaves (p := q) L ka hx hh (by omega) (by omega) N q k d1 (by rw [ek]; exact i1) (Nat.le_refl _) (by omega) (fun i => by rw [if_neg (by omega), g7]) g8 (by omega)) (fun r h => ⟨q, by omega, p2, h⟩)
/-- what a coming and a leaving do to the numbers held -/
theorem hin_s {ad : List Nat} {δ δ1 : dp} {H M p : Nat} {x : Int32} (S : hsr ad δ H) (hM1 : hM ad δ H = (M : Int)) (hM2 : M < 2000) (P : hpl ad δ H x p) (nm : ¬ hmem ad δ H x) (D : hin ad δ δ1 H x p M) : hsr ad δ1 H ∧ (∀ y, hmem ad δ H y → hmem ad δ1 H y) ∧ hmem ad δ1 H x ∧ ∀ y, hmem ad δ1 H y → hmem ad δ H y ∨ y = x := by
  have m1 : hM ad δ1 H = (M : Int) + 1 := by
    have := D.2 H
    rw [if_pos rfl] at this
    exact this
  have p1 := P.1
  have r1 : ∀ i : Nat, i ≤ M → hR ad δ1 H i = if i < p then hR ad δ H i else if i = p then x.toInt else hR ad δ H (i - 1) := fun i hi => by
    unfold hR
    rw [D.1]
    by_cases c : i < p
    · rw [if_neg (by omega), if_neg (by omega), if_pos c]
    · rw [if_neg c]
      by_cases c2 : i = p
      · rw [if_pos (by omega), if_pos c2]
      · rw [if_neg (by omega), if_neg c2, if_pos (by omega), show 2000 * H + i - 1 = 2000 * H + (i - 1) by omega]
  have pn := fun z => nm ((hpl_mem S P).mpr z)
  have gt : ∀ i : Nat, p ≤ i → (i : Int) < hM ad δ H → x.toInt < hR ad δ H i := fun i h1 h2 => by
    have a1 := P.2.2 p (Nat.le_refl _) (by omega)
    have a2 : hR ad δ H p ≠ x.toInt := fun z => pn ⟨by omega, z⟩
    by_cases c : p = i
    · rw [← c]; omega
    · have := S.2 p i (by omega) h2
      omega
  refine ⟨⟨by omega, fun i j hij hj => ?_⟩, fun y hy => ?_, ⟨p, by omega, by rw [r1 p (by omega), if_neg (by omega), if_pos rfl]⟩, fun y hy => ?_⟩
  · rw [r1 i (by omega), r1 j (by omega)]
    by_cases c1 : j < p
    · rw [if_pos c1, if_pos (by omega)]; exact S.2 i j hij (by omega)
    · rw [if_neg c1]
      by_cases c2 : j = p
      · rw [if_pos c2, if_pos (by omega)]; exact P.2.1 i (by omega)
      · rw [if_neg c2]
        by_cases c4 : i < p
        · rw [if_pos c4]
          have := P.2.1 i c4
          have := gt (j - 1) (by omega) (by omega)
          omega
        · rw [if_neg c4]
          by_cases c5 : i = p
          · rw [if_pos c5]; exact gt (j - 1) (by omega) (by omega)
          · rw [if_neg c5]; exact S.2 (i - 1) (j - 1) (by omega) (by omega)
  · obtain ⟨i, h1, h2⟩ := hy
    by_cases c : i < p
    · exact ⟨i, by omega, by rw [r1 i (by omega), if_pos c]; exact h2⟩
    · exact ⟨i + 1, by omega, by rw [r1 (i + 1) (by omega), if_neg (by omega), if_neg (by omega)]; exact h2⟩
  · obtain ⟨i, h1, h2⟩ := hy
    rw [r1 i (by omega)] at h2
    by_cases c : i < p
    · rw [if_pos c] at h2; exact Or.inl ⟨i, by omega, h2⟩
    · rw [if_neg c] at h2
      by_cases c2 : i = p
      · rw [if_pos c2] at h2; exact Or.inr (i_eq h2.symm)
      · rw [if_neg c2] at h2; exact Or.inl ⟨i - 1, by omega, h2⟩
theorem hde_s {ad : List Nat} {δ δ1 : dp} {H M p : Nat} (S : hsr ad δ H) (hM1 : hM ad δ H = (M : Int)) (hM2 : M ≤ 2000) (hp : p < M) (D : hde ad δ δ1 H p M) : hsr ad δ1 H ∧ ∀ y, hmem ad δ1 H y → hmem ad δ H y := by
  have m1 : hM ad δ1 H = (M : Int) - 1 := by
    have := D.2 H
    rw [if_pos rfl] at this
    exact this
  have r1 : ∀ i : Nat, i + 1 < M → hR ad δ1 H i = if i < p then hR ad δ H i else hR ad δ H (i + 1) := fun i hi => by
    unfold hR
    rw [D.1]
    by_cases c : i < p
    · rw [if_neg (by omega), if_pos c]
    · rw [if_pos (by omega), if_neg c, show 2000 * H + i + 1 = 2000 * H + (i + 1) by omega]
  refine ⟨⟨by omega, fun i j hij hj => ?_⟩, fun y hy => ?_⟩
  · rw [r1 i (by omega), r1 j (by omega)]
    by_cases c1 : j < p
    · rw [if_pos c1, if_pos (by omega)]; exact S.2 i j hij (by omega)
    · rw [if_neg c1]
      by_cases c2 : i < p
      · rw [if_pos c2]; exact S.2 i (j + 1) (by omega) (by omega)
      · rw [if_neg c2]; exact S.2 (i + 1) (j + 1) (by omega) (by omega)
  · obtain ⟨i, h1, h2⟩ := hy
    rw [r1 i (by omega)] at h2
    by_cases c : i < p
    · rw [if_pos c] at h2; exact ⟨i, by omega, h2⟩
    · rw [if_neg c] at h2; exact ⟨i + 1, by omega, h2⟩
/-- a number that the SHAPE has -/
def rg (a0 : Nat) (δ : dp) (y : Int32) : Prop := 0 ≤ y.toInt ∧ y.toInt < ((1 : Int32) <<< ((q_I δ 12 10 a0) &&& 31)).toInt
theorem rg_k {a0 : Nat} {δ δ1 : dp} (e : q_I δ1 12 10 a0 = q_I δ 12 10 a0) {y : Int32} : rg a0 δ1 y ↔ rg a0 δ y := by unfold rg; rw [e]
/-- a house in order: sorted, of the SHAPE's numbers -/
def hok (ad : List Nat) (a0 : Nat) (δ : dp) (K : Nat) : Prop := hsr ad δ K ∧ ∀ y, hmem ad δ K y → rg a0 δ y
theorem f12_numberAt {ad : List Nat} {h : hp} (L : Lay TLx ad h) {δ0 : dp} {N : Nat} (hN : 10000000 ≤ N) {a0 H k : Nat} {x1 x2 : Int32} (ka : q_K h.1 a0 = 12) (hx : x1.toInt = (H : Int)) (hh : H < 4) (h2 : x2.toInt = (k : Int)) {δ : dp} (I : RI ad h.1 δ0 δ) (hk : (k : Int) < hM ad δ H) : ok (D_X12_numberAt N h.1 a0 x1 x2 δ) (fun r => r.2 = δ ∧ r.1 = q_R δ (Ad ad 102) (2000 * H + k)) := by
  have hB : -1000 ≤ hM ad δ H ∧ hM ad δ H ≤ 2000 := rb_103 L I H
  have e0 : (0 : Int32).toInt = 0 := rfl
  have tn := tnH hx
  have vM : (q_R δ (Ad ad 103) H).toInt = hM ad δ H := rfl
  unfold D_X12_numberAt
  obtain ⟨b, om, _, nm⟩ := gO_12_14 L ka
  obtain rfl := gS_12_14 L ka om
  obtain ⟨b, ob, _, nb, _⟩ := gO_12_13 L ka
  obtain rfl := gS_12_13 L ka ob
  refine ok_at om ?_
  refine ok_gd (fun z => ?_) ?_
  · rcases z with z | z
    · have := o_lt z; omega
    · omega
  rw [tn]
  have t1 := te_subc (c := 1) (n := 1) rfl (q_R δ (Ad ad 103) H) (by omega) (by omega)
  refine ok_bind (k_X12_within L hN (x0 := x2) (x1 := 0) (x2 := q_R δ (Ad ad 103) H - 1) I) (fun r hr => ?_)
  obtain ⟨e, b, _, g⟩ := hr
  rw [e]
  have nb2 := bo_l b
  refine ok_ite (fun c => ?_) (fun c => ?_)
  · have c1 : r.1.toInt = 0 := o_eq c
    have g1 := g c1
    rw [e0] at g1
    exfalso
    rcases g1 with g1 | g1 <;> omega
  · refine ok_at ob ?_
    obtain ⟨i1, i2⟩ := ix2 hx hh h2 (by omega)
    refine ok_gd (fun z => ?_) ?_
    · rcases z with z | z
      · have := o_lt z; omega
      · rw [i2] at z; omega
    rw [i2]
    unfold J_X12_numberAt_32
    exact ok_some ⟨rfl, rfl⟩
