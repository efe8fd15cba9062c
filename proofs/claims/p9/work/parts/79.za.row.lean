/-! the worst row of calls, by the table: every entry is attained -/
def bh (c x s : Int32) : Int32 := if c = 0 then s ||| ((1 : Int32) <<< (x &&& 31)) else if c = 1 then s &&& (((1 : Int32) <<< (x &&& 31)) ^^^ (-1)) else s
theorem behind_eq {N : Nat} {g : gp} {a0 : Nat} {x1 x2 x3 : Int32} {δ : dp} : D_X12_behind N g a0 x1 x2 x3 δ = some (bh x1 x2 x3, δ) := by
  unfold D_X12_behind bh J_X12_behind_28
  split
  · rfl
  · split <;> rfl
theorem bh_r {a : Nat} (ha : a ≤ 16) (c : Int32) {x s : Int32} (s0 : 0 ≤ s.toInt) (s1 : s.toInt < ((2 ^ a : Nat) : Int)) (x0 : 0 ≤ x.toInt) (x1 : x.toInt < a) : 0 ≤ (bh c x s).toInt ∧ (bh c x s).toInt < ((2 ^ a : Nat) : Int) ∧ pc 16 (un (bh c x s)) ≤ pc 16 (un s) + 1 := by
  have es := un_i s0
  have h2 : 2 ^ a ≤ 2 ^ 16 := Nat.pow_le_pow_right (by decide) ha
  have h3 : (2 : Nat) ^ 16 = 65536 := by decide
  have su : un s < 2 ^ a := by omega
  unfold bh
  split
  · have e : un (s ||| ((1 : Int32) <<< (x &&& 31))) = un s ||| 2 ^ x.toInt.toNat := by rw [un_or, un_sl x0 (by omega)]
    have l : un (s ||| ((1 : Int32) <<< (x &&& 31))) < 2 ^ a := by
      rw [e]
      exact Nat.or_lt_two_pow su (Nat.pow_lt_pow_right (by decide) (by omega))
    have t := un_o (a := s ||| ((1 : Int32) <<< (x &&& 31))) (by omega)
    refine ⟨by omega, by omega, ?_⟩
    rw [e]
    exact pc_or 16 _ _
  · split
    · have e := un_and s (((1 : Int32) <<< (x &&& 31)) ^^^ (-1))
      have l : un (s &&& (((1 : Int32) <<< (x &&& 31)) ^^^ (-1))) ≤ un s := by rw [e]; exact Nat.and_le_left
      have t := un_o (a := s &&& (((1 : Int32) <<< (x &&& 31)) ^^^ (-1))) (by omega)
      refine ⟨by omega, by omega, ?_⟩
      rw [e]
      exact Nat.le_succ_of_le (pc_and 16 _ _)
    · exact ⟨s0, s1, Nat.le_succ _⟩
theorem pc_le (k : Nat) : ∀ s, pc k s ≤ k := by
  induction k with
  | zero => intro s; exact Nat.le_refl _
  | succ k ih =>
    intro s
    show s % 2 + pc k (s / 2) ≤ k + 1
    have := ih (s / 2)
    omega
theorem fl_ones {N : Nat} {g : gp} {x0 : Int32} : ∀ (n : Nat) (x1v x2v : Int32) (δ : dp), 0 ≤ x2v.toInt → x2v.toInt < 65536 → 0 ≤ x1v.toInt → x1v.toInt + (pc 16 (un x2v) : Int) ≤ 1000 → x2v.toInt < (n : Int) → ok (L_X12_ones_4 N g x0 n x1v x2v δ) (fun r => r.2 = δ ∧ r.1.toInt = x1v.toInt + (pc 16 (un x2v) : Int)) := by
  intro n
  induction n with
  | zero => intro x1v x2v δ a b c d e; exfalso; omega
  | succ n ih =>
    intro x1v x2v δ a b c d e
    unfold L_X12_ones_4
    have ue := un_i a
    refine ok_ite (fun z => ok_some ⟨rfl, ?_⟩) (fun z => ?_)
    · show x1v.toInt = _
      rw [z, show un 0 = 0 from rfl, pc_0]; omega
    · have z1 := o_ne z
      have z0 : (0 : Int32).toInt = 0 := rfl
      refine ok_biv (fun y ey => ok_biv (fun w ew => ?_))
      have y1 := te_addc (c := 1) (n := 1) rfl x1v (by omega) (by omega)
      rw [← ey] at y1
      have s1 := te_subc (c := 1) (n := 1) rfl x2v (by omega) (by omega)
      have us := un_i (a := x2v - 1) (by omega)
      have uw : un w = un x2v &&& (un x2v - 1) := by
        rw [ew, un_and]
        congr 1
        omega
      have lw : un w ≤ un x2v - 1 := by rw [uw]; exact Nat.and_le_right
      have tw := un_o (a := w) (by omega)
      have hp := pc_dec 16 (un x2v) (by omega) (by have : (2 : Nat) ^ 16 = 65536 := by decide
                                                   omega)
      rw [← uw] at hp
      refine ok_mono (ih y w δ (by omega) (by omega) (by omega) (by omega) (by omega)) (fun r hr => ⟨hr.1, ?_⟩)
      rw [hr.2]
      omega
theorem f_ones {N : Nat} (hN : 10000000 ≤ N) {g : gp} {x0 : Int32} {δ : dp} (h0 : 0 ≤ x0.toInt) (h1 : x0.toInt < 65536) : ok (D_X12_ones N g x0 δ) (fun r => r.2 = δ ∧ r.1.toInt = (pc 16 (un x0) : Int)) := by
  have hp := pc_le 16 (un x0)
  have e0 : (0 : Int32).toInt = 0 := rfl
  unfold D_X12_ones
  refine ok_mono (fl_ones N 0 x0 δ h0 h1 (by decide) (by omega) (by omega)) (fun r hr => ⟨hr.1, ?_⟩)
  rw [hr.2]; omega
/-- what touchSet answers -/
def tvf (N : Nat) (g : gp) (a0 : Nat) (δs : dp) (c x s : Int32) : Int32 := match D_X12_touchSet N g a0 c x s δs with
  | some r => r.1
  | none => 0
theorem v_touchSet {ad : List Nat} {h : hp} (L : Lay TLx ad h) {δ0 : dp} {N : Nat} (hN : 10000000 ≤ N) {a0 : Nat} {c x s : Int32} (k_a0 : q_K h.1 a0 = 12) (c0 : 0 ≤ c.toInt) (c4 : c.toInt ≤ 4) {δs δ : dp} (I : RI ad h.1 δ0 δs) (J : RI ad h.1 δ0 δ) (e10 : q_I δ 12 10 a0 = q_I δs 12 10 a0) (e11 : q_I δ 12 11 a0 = q_I δs 12 11 a0) (e12 : q_I δ 12 12 a0 = q_I δs 12 12 a0) : ok (D_X12_touchSet N h.1 a0 c x s δ) (fun r => r.1 = tvf N h.1 a0 δs c x s) := by
  obtain ⟨b35, o35, _, n35, _⟩ := gO_12_35 L k_a0
  have hw := cb_12_10 I k_a0
  have he := cb_12_11 I k_a0
  obtain ⟨rs, h1, _, h2⟩ := ok_hs (k_X12_touchSet L hN (x1 := c) (x2 := x) (x3 := s) k_a0 I) (r_touchSet (N := N) (x1 := c) (x2 := x) (x3 := s) (δ := δs) (E := (q_I δs 12 11 a0).toInt.toNat) (w := (q_I δs 12 10 a0).toInt.toNat) o35 n35 (by omega) (by omega) (by omega) (by omega) (by omega) c0 c4)
  obtain ⟨r, g1, _, g2⟩ := ok_hs (k_X12_touchSet L hN (x1 := c) (x2 := x) (x3 := s) k_a0 J) (r_touchSet (N := N) (x1 := c) (x2 := x) (x3 := s) (δ := δ) (E := (q_I δs 12 11 a0).toInt.toNat) (w := (q_I δs 12 10 a0).toInt.toNat) o35 n35 (by omega) (by rw [e11]; omega) (by rw [e10]; omega) (by omega) (by omega) c0 c4)
  refine ⟨r, g1, ?_⟩
  unfold tvf
  rw [h1]
  rw [e12] at g2
  exact i_eq (g2.trans h2.symm)
/-- a state of the search -/
def FE (ad : List Nat) (g : gp) (δ0 δs δ : dp) : Prop := RI ad g δ0 δ ∧ kp [(12, 36), (12, 45)] δs δ ∧ q_V δ = q_V δs ∧ kr ad [119, 122, 123] δs δ
theorem fe_ts {ad : List Nat} {h : hp} (L : Lay TLx ad h) {δ0 : dp} {N : Nat} (hN : 10000000 ≤ N) {a0 : Nat} {c x s : Int32} (k_a0 : q_K h.1 a0 = 12) (c0 : 0 ≤ c.toInt) (c4 : c.toInt ≤ 4) {δs δ : dp} (I : RI ad h.1 δ0 δs) (F : FE ad h.1 δ0 δs δ) : ok (D_X12_touchSet N h.1 a0 c x s δ) (fun r => r.1 = tvf N h.1 a0 δs c x s ∧ 1 ≤ r.1.toInt ∧ r.1.toInt ≤ 61 ∧ FE ad h.1 δ0 δs r.2 ∧ q_R r.2 (Ad ad 122) = q_R δ (Ad ad 122)) := by
  obtain ⟨f1, f2, f3, f4⟩ := F
  refine ok_mono (ok_and (k_X12_touchSet L hN (x1 := c) (x2 := x) (x3 := s) k_a0 f1) (v_touchSet L hN (c := c) (x := x) (s := s) k_a0 c0 c4 I f1 (f2 12 10 a0 (by decide)) (f2 12 11 a0 (by decide)) (f2 12 12 a0 (by decide)))) (fun r hr => ?_)
  obtain ⟨⟨g1, ⟨g2, g3, g4⟩, g5, g6⟩, g7⟩ := hr
  exact ⟨g7, g5, g6, ⟨g1, kp_w (by decide) (kp_t f2 g2), g3.trans f3, kr_w (by decide) (kr_t f4 g4)⟩, g4 122 (by decide) (by decide) (by decide)⟩
theorem fe_w2 {ad : List Nat} {h : hp} (L : Lay TLx ad h) {δ0 δs δ d : dp} (F : FE ad h.1 δ0 δs δ) {i : Nat} {v : Int32} (e : d = s_R δ (Ad ad 122) i v) : FE ad h.1 δ0 δs d := by
  obtain ⟨f1, f2, f3, f4⟩ := F
  refine ⟨by rw [e]; exact RI.sR L f1 ⟨122, by decide, by decide, by decide, rfl⟩, kp_N f2 (by rw [e]; rfl), by rw [e]; exact f3, kr_w (by decide) (kr_s L (by decide) f4 e)⟩
theorem fe_w3 {ad : List Nat} {h : hp} (L : Lay TLx ad h) {δ0 δs δ d : dp} (F : FE ad h.1 δ0 δs δ) {i : Nat} {v : Int32} (e : d = s_R δ (Ad ad 123) i v) : FE ad h.1 δ0 δs d ∧ q_R d (Ad ad 122) = q_R δ (Ad ad 122) := by
  obtain ⟨f1, f2, f3, f4⟩ := F
  refine ⟨⟨by rw [e]; exact RI.sR L f1 ⟨123, by decide, by decide, by decide, rfl⟩, kp_N f2 (by rw [e]; rfl), by rw [e]; exact f3, kr_w (by decide) (kr_s L (by decide) f4 e)⟩, ?_⟩
  rw [e, rR_o (ad_ne L (by decide) (by decide) (by decide))]
theorem fe_w5 {ad : List Nat} {h : hp} (L : Lay TLx ad h) {δ0 δs δ d : dp} (F : FE ad h.1 δ0 δs δ) {a0 : Nat} {v : Int32} (e : d = s_I δ 12 45 a0 v) : FE ad h.1 δ0 δs d ∧ q_R d (Ad ad 122) = q_R δ (Ad ad 122) := by
  obtain ⟨f1, f2, f3, f4⟩ := F
  have b := ti_b v
  refine ⟨⟨by rw [e]; exact RI.sI L f1 b.1 b.2, kp_w (by decide) (kp_I f2 e), by rw [e]; exact f3, kr_N f4 (by rw [e]; rfl)⟩, by rw [e]; rfl⟩
theorem fe_all {ad : List Nat} {g : gp} {N : Nat} {a0 : Nat} {δ0 δs δ : dp} (F : FE ad g δ0 δs δ) : D_X12_all N g a0 δ = some ((1 : Int32) <<< (q_I δs 12 10 a0 &&& 31), δ) := by
  unfold D_X12_all
  rw [F.2.1 12 10 a0 (by decide)]
theorem qx {a : Nat} (ha : a = 4 ∨ a = 8 ∨ a = 16) {A q : Int32} (hA : A.toInt = (a : Int)) (q0 : 0 ≤ q.toInt) (q1 : q.toInt ≤ 5 * (a : Int)) : 0 ≤ (q - q / A * A).toInt ∧ (q - q / A * A).toInt < (a : Int) := by
  have hd := ti_div (c := A) (n := a) hA (by omega) q q0
  have hm := te_mulr (c := A) (n := (a : Int)) hA (q / A) (by rw [hd]; rcases ha with rfl | rfl | rfl <;> omega) (by rw [hd]; rcases ha with rfl | rfl | rfl <;> omega)
  have hs := te_sub q (q / A * A) (by rw [hm.1, hd]; rcases ha with rfl | rfl | rfl <;> omega) (by rw [hm.1, hd]; rcases ha with rfl | rfl | rfl <;> omega)
  rw [hs.1, hm.1, hd]
  rcases ha with rfl | rfl | rfl <;> omega
theorem qc4 {a : Nat} (ha : a = 4 ∨ a = 8 ∨ a = 16) {A q : Int32} (hA : A.toInt = (a : Int)) (q0 : 0 ≤ q.toInt) (q1 : q.toInt < 5 * (a : Int)) : 0 ≤ (q / A).toInt ∧ (q / A).toInt ≤ 4 := by
  have hd := ti_div (c := A) (n := a) hA (by omega) q q0
  rw [hd]
  rcases ha with rfl | rfl | rfl <;> omega
/-- a call's touches, and those of the best row behind it -/
def fV (tv : Int32 → Int32 → Int32 → Int32) (A : Int32) (ρ : Nat → Int32) (l : Nat) (q s : Int32) : Int := (tv (q / A) (q - q / A * A) s).toInt + (ρ (65536 * (l - 1) + (bh (q / A) (q - q / A * A) s).toInt.toNat)).toInt
def fG (tv : Int32 → Int32 → Int32 → Int32) (A : Int32) (a : Nat) (ρ : Nat → Int32) (l : Nat) (s : Int32) : Prop := 0 ≤ (ρ (65536 * l + s.toInt.toNat)).toInt ∧ (ρ (65536 * l + s.toInt.toNat)).toInt ≤ 61 * (l : Int) ∧ (1 ≤ l → ∃ q : Int32, 0 ≤ q.toInt ∧ q.toInt < 5 * (a : Int) ∧ fV tv A ρ l q s = (ρ (65536 * l + s.toInt.toNat)).toInt)
def fT (tv : Int32 → Int32 → Int32 → Int32) (A : Int32) (a : Nat) (ρ : Nat → Int32) (n l : Nat) : Prop := ∀ l', l' ≤ l → ∀ s : Int32, 0 ≤ s.toInt → s.toInt < ((2 ^ a : Nat) : Int) → pc 16 (un s) + l' ≤ n → fG tv A a ρ l' s
theorem fG_c {tv : Int32 → Int32 → Int32 → Int32} {A : Int32} {a : Nat} (ha : a = 4 ∨ a = 8 ∨ a = 16) (hA : A.toInt = (a : Int)) {ρ ρ' : Nat → Int32} {l : Nat} {s : Int32} (s0 : 0 ≤ s.toInt) (s1 : s.toInt < ((2 ^ a : Nat) : Int)) (h1 : ∀ i, i < 65536 * l → ρ' i = ρ i) (h2 : ρ' (65536 * l + s.toInt.toNat) = ρ (65536 * l + s.toInt.toNat)) (G : fG tv A a ρ l s) : fG tv A a ρ' l s := by
  obtain ⟨g1, g2, g3⟩ := G
  unfold fG
  rw [h2]
  refine ⟨g1, g2, fun hl => ?_⟩
  obtain ⟨q, q0, q1, q2⟩ := g3 hl
  refine ⟨q, q0, q1, ?_⟩
  have hx := qx ha hA q0 (by omega)
  have hb := bh_r (a := a) (by omega) (q / A) s0 s1 hx.1 hx.2
  have hp : 2 ^ a ≤ 65536 := by rcases ha with rfl | rfl | rfl <;> decide
  rw [← q2]
  unfold fV
  rw [h1 _ (by omega)]
theorem fT_c {tv : Int32 → Int32 → Int32 → Int32} {A : Int32} {a : Nat} (ha : a = 4 ∨ a = 8 ∨ a = 16) (hA : A.toInt = (a : Int)) {ρ ρ' : Nat → Int32} {n l : Nat} (h1 : ∀ i, i < 65536 * (l + 1) → ρ' i = ρ i) (T : fT tv A a ρ n l) : fT tv A a ρ' n l := by
  intro l' hl s s0 s1 hp
  have hq : 2 ^ a ≤ 65536 := by rcases ha with rfl | rfl | rfl <;> decide
  exact fG_c ha hA s0 s1 (fun i hi => h1 i (by omega)) (h1 _ (by omega)) (T l' hl s s0 s1 hp)
