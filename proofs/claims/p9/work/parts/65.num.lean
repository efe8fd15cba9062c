/-! Numbers as a sorted row: what firstFrom, add and remove do to it -/
theorem ok_and {α : Type} {o : Option α} {P Q : α → Prop} (h : ok o P) (k : ok o Q) : ok o (fun r => P r ∧ Q r) := by
  obtain ⟨r, e, hp⟩ := h
  obtain ⟨r1, e1, hq⟩ := k
  rw [e] at e1
  obtain rfl := Option.some.inj e1
  exact ⟨r, e, hp, hq⟩
theorem qR_sC {δ : dp} {a b i j n : Nat} (k : Nat) : q_R (s_C δ a b i j n) b k = if j ≤ k ∧ k < j + n then q_R δ a (i + (k - j)) else q_R δ b k := by
  show va_up (q_R δ) b (va_cpy (q_R δ a) (q_R δ b) i j n) b k = _
  rw [va_up_self]
  rfl
def srt (δ : dp) (a b : Nat) : Prop := ∀ i j : Nat, i < j → (j : Int) < (q_I δ 3 1 a).toInt → (q_R δ b i).toInt < (q_R δ b j).toInt
def plc (δ : dp) (a b : Nat) (x : Int32) (p : Nat) : Prop := (p : Int) ≤ (q_I δ 3 1 a).toInt ∧ (∀ i : Nat, i < p → (q_R δ b i).toInt < x.toInt) ∧ ∀ i : Nat, p ≤ i → (i : Int) < (q_I δ 3 1 a).toInt → x.toInt ≤ (q_R δ b i).toInt
def ins (δ δ1 : dp) (a b : Nat) (x : Int32) (p : Nat) : Prop := (q_I δ1 3 1 a).toInt = (q_I δ 3 1 a).toInt + 1 ∧ ∀ i : Nat, (i : Int) ≤ (q_I δ 3 1 a).toInt → q_R δ1 b i = if i < p then q_R δ b i else if i = p then x else q_R δ b (i - 1)
def del (δ δ1 : dp) (a b : Nat) (p : Nat) : Prop := (q_I δ1 3 1 a).toInt = (q_I δ 3 1 a).toInt - 1 ∧ ∀ i : Nat, (i : Int) + 1 < (q_I δ 3 1 a).toInt → q_R δ1 b i = if i < p then q_R δ b i else q_R δ b (i + 1)
theorem plc_u {δ : dp} {a b : Nat} {x : Int32} {p q : Nat} (P : plc δ a b x p) (Q : plc δ a b x q) : p = q := by
  obtain ⟨p1, p2, p3⟩ := P
  obtain ⟨q1, q2, q3⟩ := Q
  rcases (show p < q ∨ p = q ∨ q < p by omega) with h | h | h
  · have := q2 p h
    have := p3 p (Nat.le_refl _) (by omega)
    omega
  · exact h
  · have := p2 q h
    have := q3 q (Nat.le_refl _) (by omega)
    omega
theorem fl_firstFrom {ad : List Nat} {h : hp} (L : Lay TLx ad h) {δ0 : dp} {N a b : Nat} {x : Int32} (ka : q_K h.1 a = 3) (hb : q_O h.1 3 0 a = some b) {δ : dp} (I : CI ad h.1 δ0 δ) (S : srt δ a b) : ∀ (n : Nat) (x2 x3 : Int32), 0 ≤ x2.toInt → x2.toInt ≤ x3.toInt → x3.toInt ≤ (q_I δ 3 1 a).toInt → (∀ i : Nat, (i : Int) < x2.toInt → (q_R δ b i).toInt < x.toInt) → (∀ i : Nat, x3.toInt ≤ (i : Int) → (i : Int) < (q_I δ 3 1 a).toInt → x.toInt ≤ (q_R δ b i).toInt) → x3.toInt - x2.toInt < (n : Int) → ok (L_X3_firstFrom_7 N h.1 a x n x2 x3 δ) (fun r => r.2 = δ ∧ ∃ p : Nat, r.1.toInt = (p : Int) ∧ plc δ a b x p) := by
  intro n
  induction n with
  | zero => intro x2 x3 h1 h2 h3 h4 h5 h6; exfalso; omega
  | succ n ih =>
    intro x2 x3 h1 h2 h3 h4 h5 h6
    unfold L_X3_firstFrom_7
    have hB := cb_3_1 I ka hb
    obtain ⟨b', hb', _, ⟨n1, n2⟩, _⟩ := gO_3_0 L ka
    rw [hb] at hb'
    obtain rfl := Option.some.inj hb'
    have e0 : (0 : Int32).toInt = 0 := rfl
    refine ok_ite (fun c => ?_) (fun c => ?_)
    · have c1 := o_le c
      exact ok_some ⟨rfl, x2.toInt.toNat, (show x2.toInt = ((x2.toInt.toNat : Nat) : Int) by omega), by omega, fun i hi => h4 i (by omega), fun i hi hm => h5 i (by omega) hm⟩
    · have c1 := o_nle c
      refine ok_biv (fun m em => ?_)
      have hm : m.toInt = (x2.toInt + x3.toInt) / 2 := by
        rw [em]
        have t := te_add x2 x3 (by omega) (by omega)
        have t2 := ti_div (c := 2) (n := 2) rfl (by decide) (x2 + x3) (by omega)
        omega
      refine ok_at hb ?_
      have tm := ti_tn m
      refine ok_gd (fun z => ?_) ?_
      · rcases z with z | z
        · have := o_lt z; omega
        · omega
      refine ok_ite (fun z => ?_) (fun z => ?_)
      · have z1 := o_le z
        unfold J_X3_firstFrom_41
        refine ih x2 m h1 (by omega) (by omega) h4 (fun i hi hq => ?_) (by omega)
        by_cases e : i = m.toNatClampNeg
        · rw [e]; exact z1
        · have := S m.toNatClampNeg i (by omega) hq
          omega
      · have z1 := o_nle z
        refine ok_biv (fun y ey => ?_)
        have hy : y.toInt = m.toInt + 1 := by rw [ey]; exact (te_addc (c := 1) (n := 1) rfl m (by omega) (by omega)).1
        unfold J_X3_firstFrom_41
        refine ih y x3 (by omega) (by omega) h3 (fun i hi => ?_) h5 (by omega)
        by_cases e : i = m.toNatClampNeg
        · rw [e]; exact z1
        · have := S i m.toNatClampNeg (by omega) (by omega)
          omega
theorem f_firstFrom {ad : List Nat} {h : hp} (L : Lay TLx ad h) {δ0 : dp} {N : Nat} (hN : 10000000 ≤ N) {a b : Nat} {x : Int32} (ka : q_K h.1 a = 3) (hb : q_O h.1 3 0 a = some b) {δ : dp} (I : CI ad h.1 δ0 δ) (S : srt δ a b) : ok (D_X3_firstFrom N h.1 a x δ) (fun r => r.2 = δ ∧ ∃ p : Nat, r.1.toInt = (p : Int) ∧ plc δ a b x p) := by
  unfold D_X3_firstFrom
  refine ok_biv (fun m em => ?_)
  have hB := cb_3_1 I ka hb
  have hm : m.toInt = (q_I δ 3 1 a).toInt := by rw [em]
  obtain ⟨b', hb', _, ⟨n1, n2⟩, _⟩ := gO_3_0 L ka
  rw [hb] at hb'
  obtain rfl := Option.some.inj hb'
  have e0 : (0 : Int32).toInt = 0 := rfl
  exact fl_firstFrom L ka hb I S N 0 m (by omega) (by omega) (by omega) (fun i hi => by omega) (fun i h1 h2 => by omega) (by omega)
theorem fj_add {ad : List Nat} {h : hp} (L : Lay TLx ad h) {δ0 : dp} {N a b p : Nat} {x y : Int32} (ka : q_K h.1 a = 3) (hb : q_O h.1 3 0 a = some b) {δ : dp} (I : CI ad h.1 δ0 δ) (P : plc δ a b x p) (hy : y.toInt = (p : Int)) (ne : (p : Int) < (q_I δ 3 1 a).toInt → q_R δ b p ≠ x) : ok (J_X3_add_24 N h.1 a x y δ) (fun r => (r.1 = 0 ∧ r.2 = δ ∧ (q_N h.1 b : Int) ≤ (q_I δ 3 1 a).toInt) ∨ (r.1 = 1 ∧ ins δ r.2 a b x p)) := by
  have hB := cb_3_1 I ka hb
  obtain ⟨b', hb', _, ⟨n1, n2⟩, _⟩ := gO_3_0 L ka
  rw [hb] at hb'
  obtain rfl := Option.some.inj hb'
  have e0 : (0 : Int32).toInt = 0 := rfl
  have p1 := P.1
  have hn := n_ti (q_N h.1 b) (by omega)
  unfold J_X3_add_24
  refine ok_at hb ?_
  refine ok_ite (fun c => ?_) (fun c => ?_)
  · have c1 := o_lt c
    refine ok_at hb ?_
    refine ok_at hb ?_
    have t1 := te_addc (c := 1) (n := 1) rfl y (by omega) (by omega)
    have t2 := te_sub (q_I δ 3 1 a) y (by omega) (by omega)
    have t3 := ti_tn y
    have t4 := ti_tn (y + 1)
    have t5 := ti_tn (q_I δ 3 1 a - y)
    refine ok_gd (fun z => ?_) ?_
    · rcases z with z | z | z | z | z
      · have := o_lt z; omega
      · have := o_lt z; omega
      · have := o_lt z; omega
      · omega
      · omega
    refine ok_bdv (fun d1 e1 => ?_)
    refine ok_at hb ?_
    refine ok_gd (fun z => ?_) ?_
    · rcases z with z | z
      · have := o_lt z; omega
      · omega
    refine ok_bdv (fun d2 e2 => ?_)
    refine ok_bdv (fun d3 e3 => ?_)
    refine ok_gp (Or.inr rfl) ?_
    refine ok_some (Or.inr ⟨rfl, ?_, fun i hi => ?_⟩)
    · have t6 := te_addc (c := 1) (n := 1) rfl (q_I δ 3 1 a) (by omega) (by omega)
      show (q_I d3 3 1 a).toInt = _
      rw [e3, rI_s, e2, e1]
      exact t6.1
    · show q_R d3 b i = _
      rw [e3, qR_sI, e2, qR_sR]
      by_cases c3 : i = p
      · rw [if_pos ⟨rfl, by omega⟩, if_neg (by omega), if_pos c3]
      · rw [if_neg (fun z => c3 (by omega)), e1, qR_sC]
        by_cases c4 : i < p
        · rw [if_neg (by omega), if_pos c4]
        · rw [if_pos (by omega), if_neg c4, if_neg c3]
          congr 1
          omega
  · have c1 := o_nlt c
    unfold J_X3_add_36
    refine ok_gp (Or.inl rfl) ?_
    exact ok_some (Or.inl ⟨rfl, rfl, by omega⟩)
theorem f_add {ad : List Nat} {h : hp} (L : Lay TLx ad h) {δ0 : dp} {N : Nat} (hN : 10000000 ≤ N) {a b : Nat} {x : Int32} (ka : q_K h.1 a = 3) (hb : q_O h.1 3 0 a = some b) {δ : dp} (I : CI ad h.1 δ0 δ) (S : srt δ a b) : ok (D_X3_add N h.1 a x δ) (fun r => (r.1 = 0 ∧ r.2 = δ ∧ ((q_N h.1 b : Int) ≤ (q_I δ 3 1 a).toInt ∨ ∃ p : Nat, plc δ a b x p ∧ (p : Int) < (q_I δ 3 1 a).toInt ∧ q_R δ b p = x)) ∨ (r.1 = 1 ∧ ∃ p : Nat, plc δ a b x p ∧ ((p : Int) < (q_I δ 3 1 a).toInt → q_R δ b p ≠ x) ∧ ins δ r.2 a b x p)) := by
  unfold D_X3_add
  refine ok_bind (f_firstFrom L hN ka hb I S) (fun r hr => ?_)
  obtain ⟨e, p, hp, P⟩ := hr
  rw [e]
  have hB := cb_3_1 I ka hb
  have e0 : (0 : Int32).toInt = 0 := rfl
  have tp := ti_tn r.1
  refine ok_ite (fun c => ?_) (fun c => ?_)
  · have c1 := o_le c
    have ne : (p : Int) < (q_I δ 3 1 a).toInt → q_R δ b p ≠ x := fun z => by omega
    refine ok_mono (fj_add L ka hb I P hp ne) (fun r1 h1 => ?_)
    rcases h1 with ⟨h1, h2, h3⟩ | ⟨h1, h2⟩
    · exact Or.inl ⟨h1, h2, Or.inl h3⟩
    · exact Or.inr ⟨h1, p, P, ne, h2⟩
  · have c1 := o_nle c
    refine ok_at hb ?_
    refine ok_gd (fun z => ?_) ?_
    · rcases z with z | z
      · have := o_lt z; omega
      · omega
    have ep : r.1.toNatClampNeg = p := by omega
    rw [ep]
    refine ok_ite (fun z => ?_) (fun z => ?_)
    · unfold J_X3_add_36
      refine ok_gp (Or.inl rfl) ?_
      exact ok_some (Or.inl ⟨rfl, rfl, Or.inr ⟨p, P, by omega, z⟩⟩)
    · refine ok_mono (fj_add L ka hb I P hp (fun _ => z)) (fun r1 h1 => ?_)
      rcases h1 with ⟨h1, h2, h3⟩ | ⟨h1, h2⟩
      · exact Or.inl ⟨h1, h2, Or.inl h3⟩
      · exact Or.inr ⟨h1, p, P, fun _ => z, h2⟩
theorem f_remove {ad : List Nat} {h : hp} (L : Lay TLx ad h) {δ0 : dp} {N : Nat} (hN : 10000000 ≤ N) {a b : Nat} {x : Int32} (ka : q_K h.1 a = 3) (hb : q_O h.1 3 0 a = some b) {δ : dp} (I : CI ad h.1 δ0 δ) (S : srt δ a b) : ok (D_X3_remove N h.1 a x δ) (fun r => (r.1 = 0 ∧ r.2 = δ ∧ ∃ p : Nat, plc δ a b x p ∧ ((p : Int) < (q_I δ 3 1 a).toInt → q_R δ b p ≠ x)) ∨ (r.1 = 1 ∧ ∃ p : Nat, plc δ a b x p ∧ (p : Int) < (q_I δ 3 1 a).toInt ∧ q_R δ b p = x ∧ del δ r.2 a b p)) := by
  unfold D_X3_remove
  refine ok_bind (f_firstFrom L hN ka hb I S) (fun r hr => ?_)
  obtain ⟨e, p, hp, P⟩ := hr
  rw [e]
  have hB := cb_3_1 I ka hb
  obtain ⟨b', hb', _, ⟨n1, n2⟩, _⟩ := gO_3_0 L ka
  rw [hb] at hb'
  obtain rfl := Option.some.inj hb'
  have e0 : (0 : Int32).toInt = 0 := rfl
  have tp := ti_tn r.1
  refine ok_ite (fun c => ?_) (fun c => ?_)
  · have c1 := o_le c
    unfold J_X3_remove_24
    refine ok_gp (Or.inl rfl) ?_
    exact ok_some (Or.inl ⟨rfl, rfl, p, P, fun z => by omega⟩)
  · have c1 := o_nle c
    refine ok_at hb ?_
    refine ok_gd (fun z => ?_) ?_
    · rcases z with z | z
      · have := o_lt z; omega
      · omega
    have ep : r.1.toNatClampNeg = p := by omega
    rw [ep]
    refine ok_ite (fun z => ?_) (fun z => ?_)
    · refine ok_bdv (fun d1 e1 => ?_)
      refine ok_at hb ?_
      refine ok_at hb ?_
      have t6 := te_subc (c := 1) (n := 1) rfl (q_I δ 3 1 a) (by omega) (by omega)
      have em : q_I d1 3 1 a = q_I δ 3 1 a - 1 := by rw [e1, rI_s]
      rw [em]
      have t1 := te_addc (c := 1) (n := 1) rfl r.1 (by omega) (by omega)
      have t2 := te_sub (q_I δ 3 1 a - 1) r.1 (by omega) (by omega)
      have t4 := ti_tn (r.1 + 1)
      have t5 := ti_tn (q_I δ 3 1 a - 1 - r.1)
      refine ok_gd (fun z => ?_) ?_
      · rcases z with z | z | z | z | z
        · have := o_lt z; omega
        · have := o_lt z; omega
        · have := o_lt z; omega
        · omega
        · omega
      refine ok_bdv (fun d2 e2 => ?_)
      refine ok_gp (Or.inr rfl) ?_
      refine ok_some (Or.inr ⟨rfl, p, P, by omega, z, ?_, fun i hi => ?_⟩)
      · show (q_I d2 3 1 a).toInt = _
        rw [e2]
        show (q_I d1 3 1 a).toInt = _
        rw [em]
        exact t6.1
      · show q_R d2 b i = _
        rw [e2, qR_sC, e1, qR_sI]
        by_cases c4 : i < p
        · rw [if_neg (by omega), if_pos c4]
        · rw [if_pos (by omega), if_neg c4]
          congr 1
          omega
    · unfold J_X3_remove_24
      refine ok_gp (Or.inl rfl) ?_
      exact ok_some (Or.inl ⟨rfl, rfl, p, P, fun _ => z⟩)
theorem ins_srt {δ δ1 : dp} {a b p : Nat} {x : Int32} (S : srt δ a b) (P : plc δ a b x p) (ne : (p : Int) < (q_I δ 3 1 a).toInt → q_R δ b p ≠ x) (H : ins δ δ1 a b x p) : srt δ1 a b := by
  intro i j hij hj
  obtain ⟨p1, p2, p3⟩ := P
  rw [H.1] at hj
  rw [H.2 i (by omega), H.2 j (by omega)]
  by_cases c1 : j < p
  · rw [if_pos c1, if_pos (by omega)]; exact S i j hij (by omega)
  · rw [if_neg c1]
    by_cases c2 : j = p
    · rw [if_pos c2, if_pos (by omega)]; exact p2 i (by omega)
    · rw [if_neg c2]
      have q1 : x.toInt < (q_R δ b p).toInt := by
        have h1 := p3 p (Nat.le_refl _) (by omega)
        have h2 := ne (by omega)
        have h3 : (q_R δ b p).toInt ≠ x.toInt := fun z => h2 (i_eq z)
        omega
      have q2 : (q_R δ b p).toInt ≤ (q_R δ b (j - 1)).toInt := by
        by_cases c3 : p = j - 1
        · rw [← c3]; exact Int.le_refl _
        · exact Int.le_of_lt (S p (j - 1) (by omega) (by omega))
      by_cases c4 : i < p
      · rw [if_pos c4]; have := p2 i c4; omega
      · rw [if_neg c4]
        by_cases c5 : i = p
        · rw [if_pos c5]; omega
        · rw [if_neg c5]; exact S (i - 1) (j - 1) (by omega) (by omega)
theorem del_srt {δ δ1 : dp} {a b p : Nat} (S : srt δ a b) (H : del δ δ1 a b p) : srt δ1 a b := by
  intro i j hij hj
  rw [H.1] at hj
  rw [H.2 i (by omega), H.2 j (by omega)]
  by_cases c1 : j < p
  · rw [if_pos c1, if_pos (by omega)]; exact S i j hij (by omega)
  · rw [if_neg c1]
    by_cases c2 : i < p
    · rw [if_pos c2]; exact S i (j + 1) (by omega) (by omega)
    · rw [if_neg c2]; exact S (i + 1) (j + 1) (by omega) (by omega)
theorem srt_s {ad : List Nat} {δ δ1 : dp} (h : sam ad δ δ1) (S : srt δ (Ad ad 43) (Ad ad 44)) : srt δ1 (Ad ad 43) (Ad ad 44) := by
  intro i j hij hj
  rw [h.1] at hj
  rw [h.2 i (by omega), h.2 j hj]
  exact S i j hij hj
theorem ad_ne {ad : List Nat} {h : hp} (L : Lay TLx ad h) {i j : Nat} (hi : i < 128) (hj : j < 128) (n : i ≠ j) : Ad ad i ≠ Ad ad j := fun e => by
  rw [Ad_eq L _ _ hi hj] at e
  exact n e
/-- added, then removed: as it was -/
theorem undo_add {ad : List Nat} {h : hp} (L : Lay TLx ad h) {δ0 : dp} {N : Nat} (hN : 10000000 ≤ N) {x : Int32} {δ δ1 δ2 : dp} {p : Nat} (I2 : CI ad h.1 δ0 δ2) (S : srt δ (Ad ad 43) (Ad ad 44)) (P : plc δ (Ad ad 43) (Ad ad 44) x p) (ne : (p : Int) < (q_I δ 3 1 (Ad ad 43)).toInt → q_R δ (Ad ad 44) p ≠ x) (H : ins δ δ1 (Ad ad 43) (Ad ad 44) x p) (M : sam ad δ1 δ2) : ok (D_X3_remove N h.1 (Ad ad 43) x δ2) (fun r => sam ad δ r.2) := by
  have S2 := srt_s M (ins_srt S P ne H)
  have p1 := P.1
  have m2 : (q_I δ2 3 1 (Ad ad 43)).toInt = (q_I δ 3 1 (Ad ad 43)).toInt + 1 := by rw [M.1]; exact H.1
  have r2 : ∀ i : Nat, (i : Int) ≤ (q_I δ 3 1 (Ad ad 43)).toInt → q_R δ2 (Ad ad 44) i = if i < p then q_R δ (Ad ad 44) i else if i = p then x else q_R δ (Ad ad 44) (i - 1) := fun i hi => by
    rw [M.2 i (by rw [H.1]; omega)]; exact H.2 i hi
  have P2 : plc δ2 (Ad ad 43) (Ad ad 44) x p := by
    refine ⟨by omega, fun i hi => ?_, fun i h1 h2 => ?_⟩
    · rw [r2 i (by omega), if_pos hi]; exact P.2.1 i hi
    · rw [r2 i (by omega), if_neg (by omega)]
      by_cases c : i = p
      · rw [if_pos c]; exact Int.le_refl _
      · rw [if_neg c]; exact P.2.2 (i - 1) (by omega) (by omega)
  refine ok_mono (f_remove L hN ((lay_knd L (by decide)).trans (by decide)) (fO_43_0 L) I2 S2) (fun r hr => ?_)
  rcases hr with ⟨_, _, q, Q, hq⟩ | ⟨_, q, Q, hq, _, D⟩
  · obtain rfl := plc_u P2 Q
    refine absurd ?_ (hq (by omega))
    rw [r2 p (by omega), if_neg (by omega), if_pos rfl]
  · obtain rfl := plc_u P2 Q
    refine ⟨i_eq (by rw [D.1]; omega), fun i hi => ?_⟩
    rw [D.2 i (by omega)]
    by_cases c : i < p
    · rw [if_pos c, r2 i (by omega), if_pos c]
    · rw [if_neg c, r2 (i + 1) (by omega), if_neg (by omega), if_neg (by omega)]
      rfl
/-- removed, then added: as it was -/
theorem undo_remove {ad : List Nat} {h : hp} (L : Lay TLx ad h) {δ0 : dp} {N : Nat} (hN : 10000000 ≤ N) {x : Int32} {δ δ1 δ2 : dp} {p : Nat} (I : CI ad h.1 δ0 δ) (I2 : CI ad h.1 δ0 δ2) (S : srt δ (Ad ad 43) (Ad ad 44)) (P : plc δ (Ad ad 43) (Ad ad 44) x p) (lt : (p : Int) < (q_I δ 3 1 (Ad ad 43)).toInt) (ex : q_R δ (Ad ad 44) p = x) (H : del δ δ1 (Ad ad 43) (Ad ad 44) p) (M : sam ad δ1 δ2) : ok (D_X3_add N h.1 (Ad ad 43) x δ2) (fun r => sam ad δ r.2) := by
  have S2 := srt_s M (del_srt S H)
  have p1 := P.1
  have kk : q_K h.1 (Ad ad 43) = 3 := (lay_knd L (by decide)).trans (by decide)
  have hB := cb_3_1 I kk (fO_43_0 L)
  have m2 : (q_I δ2 3 1 (Ad ad 43)).toInt = (q_I δ 3 1 (Ad ad 43)).toInt - 1 := by rw [M.1]; exact H.1
  have r2 : ∀ i : Nat, (i : Int) + 1 < (q_I δ 3 1 (Ad ad 43)).toInt → q_R δ2 (Ad ad 44) i = if i < p then q_R δ (Ad ad 44) i else q_R δ (Ad ad 44) (i + 1) := fun i hi => by
    rw [M.2 i (by rw [H.1]; omega)]; exact H.2 i hi
  have gt : ∀ i : Nat, p < i → (i : Int) < (q_I δ 3 1 (Ad ad 43)).toInt → x.toInt < (q_R δ (Ad ad 44) i).toInt := fun i h1 h2 => by
    have := S p i h1 h2
    rw [ex] at this
    exact this
  have P2 : plc δ2 (Ad ad 43) (Ad ad 44) x p := by
    refine ⟨by omega, fun i hi => ?_, fun i h1 h2 => ?_⟩
    · rw [r2 i (by omega), if_pos hi]; exact P.2.1 i hi
    · rw [r2 i (by omega), if_neg (by omega)]
      exact Int.le_of_lt (gt (i + 1) (by omega) (by omega))
  refine ok_mono (f_add L hN kk (fO_43_0 L) I2 S2) (fun r hr => ?_)
  rcases hr with ⟨_, _, hq⟩ | ⟨_, q, Q, _, D⟩
  · rcases hq with hq | ⟨q, Q, h1, h2⟩
    · exfalso; omega
    · obtain rfl := plc_u P2 Q
      exfalso
      rw [r2 p (by omega), if_neg (by omega)] at h2
      have := gt (p + 1) (by omega) (by omega)
      rw [h2] at this
      omega
  · obtain rfl := plc_u P2 Q
    refine ⟨i_eq (by rw [D.1]; omega), fun i hi => ?_⟩
    rw [D.2 i (by omega)]
    by_cases c : i < p
    · rw [if_pos c, r2 i (by omega), if_pos c]
    · rw [if_neg c]
      by_cases c2 : i = p
      · rw [if_pos c2, c2, ex]
      · rw [if_neg c2, r2 (i - 1) (by omega), if_neg (by omega)]
        congr 1
        omega
theorem srt_0 {δ : dp} {a b : Nat} (e : (q_I δ 3 1 a).toInt = 0) : srt δ a b := fun i j hij hj => by omega
