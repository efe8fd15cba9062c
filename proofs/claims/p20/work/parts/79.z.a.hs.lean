section
/-! what holds of a value, if there is one -/
def hs {α : Type} (o : Option α) (Q : α → Prop) : Prop := ∀ r, o = some r → Q r
theorem hs_some {α : Type} {r : α} {Q : α → Prop} (h : Q r) : hs (some r) Q := fun _ e => by cases e; exact h
theorem hs_none {α : Type} {Q : α → Prop} : hs (none : Option α) Q := fun _ e => by cases e
theorem hs_bind {α β : Type} {o : Option α} {f : α → Option β} {P : α → Prop} {Q : β → Prop} (h : hs o P) (k : ∀ r, P r → hs (f r) Q) : hs (o.bind f) Q := by
  intro r e
  cases o with
  | none => cases e
  | some a => exact k a (h a rfl) r e
theorem hs_at {α β : Type} {o : Option α} {b : α} {f : α → Option β} {Q : β → Prop} (e : o = some b) (k : hs (f b) Q) : hs (o.bind f) Q := by
  subst e
  exact k
theorem hs_ite {α : Type} {c : Prop} [Decidable c] {a b : Option α} {Q : α → Prop} (h1 : c → hs a Q) (h2 : ¬ c → hs b Q) : hs (if c then a else b) Q := by
  by_cases h : c
  · rw [if_pos h]; exact h1 h
  · rw [if_neg h]; exact h2 h
theorem hs_gd {α : Type} {c : Prop} [Decidable c] {b : Option α} {Q : α → Prop} (k : ¬ c → hs b Q) : hs (if c then none else b) Q := hs_ite (fun _ => hs_none) k
theorem hs_gp {α : Type} {c : Prop} [Decidable c] {b : Option α} {Q : α → Prop} (k : c → hs b Q) : hs (if c then b else none) Q := hs_ite k (fun _ => hs_none)
theorem hs_bdv {ρ : Type} {v : dp} {f : dp → Option ρ} {Q : ρ → Prop} (k : ∀ δ1, δ1 = v → hs (f δ1) Q) : hs (bd v f) Q := k v rfl
theorem hs_biv {ρ : Type} {v : Int32} {f : Int32 → Option ρ} {Q : ρ → Prop} (k : ∀ x, x = v → hs (f x) Q) : hs (bi v f) Q := k v rfl
theorem hs_mono {α : Type} {o : Option α} {P Q : α → Prop} (h : hs o P) (k : ∀ r, P r → Q r) : hs o Q := fun r e => k r (h r e)
theorem ok_hs {α : Type} {o : Option α} {P Q : α → Prop} (h : ok o P) (k : hs o Q) : ok o (fun r => P r ∧ Q r) := by
  obtain ⟨r, e, hr⟩ := h
  exact ⟨r, e, hr, k r e⟩
theorem ok_h {α : Type} {o : Option α} {P : α → Prop} (h : ok o P) : hs o P := by
  obtain ⟨r, e, hr⟩ := h
  intro q eq
  rw [e] at eq
  cases eq
  exact hr
theorem hs_and {α : Type} {o : Option α} {P Q : α → Prop} (h : hs o P) (k : hs o Q) : hs o (fun r => P r ∧ Q r) := fun r e => ⟨h r e, k r e⟩
def mM (δ : dp) (a : Nat) : Int := (q_I δ 3 1 a).toInt
def mR (δ : dp) (b : Nat) (i : Nat) : Int := (q_R δ b i).toInt
end
section
/-! how many bits are set -/
def pc : Nat → Nat → Nat
  | 0, _ => 0
  | k + 1, s => s % 2 + pc k (s / 2)
theorem pc_0 (k : Nat) : pc k 0 = 0 := by
  induction k with
  | zero => rfl
  | succ k ih => show 0 % 2 + pc k (0 / 2) = 0; rw [Nat.zero_div, ih]
theorem pc_dec (k : Nat) : ∀ b : Nat, b ≠ 0 → b < 2 ^ k → pc k (b &&& (b - 1)) + 1 = pc k b := by
  induction k with
  | zero => intro b h0 h1; exfalso; simp at h1; omega
  | succ k ih =>
    intro b h0 h1
    show (b &&& (b - 1)) % 2 + pc k ((b &&& (b - 1)) / 2) + 1 = b % 2 + pc k (b / 2)
    rw [Nat.and_div_two]
    have hm : (b &&& (b - 1)) % 2 = 0 := by
      have : (b &&& (b - 1)) % 2 = (b % 2) &&& ((b - 1) % 2) := Nat.and_mod_two_pow (n := 1)
      rw [this]
      rcases Nat.mod_two_eq_zero_or_one b with e | e
      · rw [e, Nat.zero_and]
      · rw [show (b - 1) % 2 = 0 by omega, Nat.and_zero]
    rw [hm]
    rcases Nat.mod_two_eq_zero_or_one b with e | e
    · rw [show (b - 1) / 2 = b / 2 - 1 by omega, e]
      have := ih (b / 2) (by omega) (by rw [Nat.pow_succ] at h1; omega)
      omega
    · rw [show (b - 1) / 2 = b / 2 by omega, Nat.and_self, e]
      omega
theorem pc_or (k : Nat) : ∀ s x : Nat, pc k (s ||| 2 ^ x) ≤ pc k s + 1 := by
  induction k with
  | zero => intro s x; exact Nat.zero_le _
  | succ k ih =>
    intro s x
    show (s ||| 2 ^ x) % 2 + pc k ((s ||| 2 ^ x) / 2) ≤ s % 2 + pc k (s / 2) + 1
    rw [Nat.or_div_two]
    have hm : (s ||| 2 ^ x) % 2 = (s % 2) ||| (2 ^ x % 2) := Nat.or_mod_two_pow (n := 1)
    cases x with
    | zero =>
      rw [show 2 ^ 0 / 2 = 0 from rfl, Nat.or_zero]
      have : (s ||| 2 ^ 0) % 2 < 2 := Nat.mod_lt _ (by decide)
      omega
    | succ x =>
      have e2 : 2 ^ (x + 1) / 2 = 2 ^ x := by rw [Nat.pow_succ]; omega
      have e0 : 2 ^ (x + 1) % 2 = 0 := by rw [Nat.pow_succ]; omega
      rw [hm, e0, Nat.or_zero, e2]
      have := ih (s / 2) x
      omega
theorem pc_and (k : Nat) : ∀ s y : Nat, pc k (s &&& y) ≤ pc k s := by
  induction k with
  | zero => intro s x; exact Nat.zero_le _
  | succ k ih =>
    intro s y
    show (s &&& y) % 2 + pc k ((s &&& y) / 2) ≤ s % 2 + pc k (s / 2)
    rw [Nat.and_div_two]
    have hm : (s &&& y) % 2 = (s % 2) &&& (y % 2) := Nat.and_mod_two_pow (n := 1)
    have := ih (s / 2) (y / 2)
    have h2 : (s % 2) &&& (y % 2) ≤ s % 2 := Nat.and_le_left
    omega
/-- an int that is not below zero, as a Nat -/
def un (a : Int32) : Nat := a.toBitVec.toNat
theorem un_i {a : Int32} (h : 0 ≤ a.toInt) : a.toInt = (un a : Int) := by
  unfold un
  have h1 : a.toInt = a.toBitVec.toInt := rfl
  rw [h1] at h ⊢
  rw [BitVec.toInt_eq_toNat_cond] at h ⊢
  have := a.toBitVec.isLt
  split at h
  · rename_i c; rw [if_pos c]
  · exfalso; omega
theorem un_o {a : Int32} (h : un a < 2147483648) : a.toInt = (un a : Int) := by
  unfold un at h ⊢
  have h1 : a.toInt = a.toBitVec.toInt := rfl
  rw [h1, BitVec.toInt_eq_toNat_cond, if_pos (by omega)]
theorem un_and (a b : Int32) : un (a &&& b) = un a &&& un b := by unfold un; rw [Int32.toBitVec_and, BitVec.toNat_and]
theorem un_or (a b : Int32) : un (a ||| b) = un a ||| un b := by unfold un; rw [Int32.toBitVec_or, BitVec.toNat_or]
theorem un_sl {x : Int32} (h0 : 0 ≤ x.toInt) (h1 : x.toInt < 16) : un ((1 : Int32) <<< (x &&& 31)) = 2 ^ x.toInt.toNat := by
  have H : ∀ j : Fin 16, un ((1 : Int32) <<< ((Int32.ofNat j.val) &&& 31)) = 2 ^ j.val := by decide +kernel
  have e : x = Int32.ofNat x.toInt.toNat := by
    apply Int32.toInt_inj.mp
    rw [Int32.toInt_ofNat_of_lt (by omega)]
    omega
  have := H ⟨x.toInt.toNat, by omega⟩
  rw [← e] at this
  exact this
end
section
/-! TOUCHES by HALVES, of a set of numbers -/
noncomputable def ic (p : Prop) (a b : Int) : Int := @ite Int p (Classical.propDecidable p) a b
theorem ic_t {p : Prop} {a b : Int} (h : p) : ic p a b = a := by unfold ic; exact if_pos h
theorem ic_f {p : Prop} {a b : Int} (h : ¬ p) : ic p a b = b := by unfold ic; exact if_neg h
theorem ic_b {p : Prop} {a b l u : Int} (ha : l ≤ a ∧ a ≤ u) (hb : l ≤ b ∧ b ≤ u) : l ≤ ic p a b ∧ ic p a b ≤ u := by
  by_cases h : p
  · rw [ic_t h]; exact ha
  · rw [ic_f h]; exact hb
def Lst (P : Nat → Prop) (a : Nat) : Prop := P a ∧ ∀ y, P y → a ≤ y
def Gst (P : Nat → Prop) (b : Nat) : Prop := P b ∧ ∀ y, P y → y ≤ b
def Emp (P : Nat → Prop) : Prop := ∀ y, ¬ P y
def Ins (P : Nat → Prop) (a b : Nat) : Nat → Prop := fun y => P y ∧ a < y ∧ y < b
def Lis (I : Nat → Prop) (q : Nat) : Nat → Prop := fun u => ∃ y, I y ∧ y / q = u
def Roo (I : Nat → Prop) (q u : Nat) : Nat → Prop := fun v => ∃ y, I y ∧ y / q = u ∧ y % q = v
noncomputable def ls (P : Nat → Prop) : Nat := Classical.epsilon (fun a => Lst P a)
noncomputable def gs (P : Nat → Prop) : Nat := Classical.epsilon (fun a => Gst P a)
theorem ls_e {P : Nat → Prop} {a : Nat} (h : Lst P a) : ls P = a := by
  have t : Lst P (ls P) := Classical.epsilon_spec (p := fun a => Lst P a) ⟨a, h⟩
  exact Nat.le_antisymm (t.2 a h.1) (h.2 _ t.1)
theorem gs_e {P : Nat → Prop} {a : Nat} (h : Gst P a) : gs P = a := by
  have t : Gst P (gs P) := Classical.epsilon_spec (p := fun a => Gst P a) ⟨a, h⟩
  exact Nat.le_antisymm (h.2 _ t.1) (t.2 a h.1)
theorem Emp_e {P : Nat → Prop} {a : Nat} (h : Lst P a) : ¬ Emp P := fun z => z a h.1
def cl (x : Int) (a b : Nat) : Nat := if x < (a : Int) then a else if (b : Int) < x then b else x.toNat
noncomputable def TBp (x : Int) (I : Nat → Prop) (a b q : Nat) (room list : Nat → Int) : Int := ic (x = (a : Int) ∨ x = (b : Int)) 1 (ic (Emp (Roo I q (cl x a b / q))) (2 + list (cl x a b)) (1 + room (cl x a b)))
noncomputable def TBh (x : Int) (I : Nat → Prop) (a b q : Nat) (room : Nat → Int) : Int := ic (x ≤ (a : Int) ∨ (b : Int) ≤ x ∨ Emp (Roo I q (x.toNat / q))) 1 (1 + room x.toNat)
noncomputable def TBe (I : Nat → Prop) (q : Nat) (room list : Nat → Int) (m : Int) (y : Nat) : Int := ic (Emp (Roo I q (y / q))) m (ic (I y ∧ ∀ z, I z → z / q = y / q → z = y) (m + 1 + list y) (m + room y))
noncomputable def TBd (x : Int) (I : Nat → Prop) (a b q : Nat) (room list : Nat → Int) : Int := ic (x < (a : Int) ∨ (b : Int) < x ∨ ((x = (a : Int) ∨ x = (b : Int)) ∧ Emp I)) 1 (TBe I q room list (ic (x = (a : Int) ∨ x = (b : Int)) 3 1) (if x = (a : Int) then ls I else if x = (b : Int) then gs I else x.toNat))
noncomputable def TBn (x : Int) (I : Nat → Prop) (a b q : Nat) (room list : Nat → Int) : Int := ic (x < (a : Int) ∨ (b : Int) ≤ x ∨ Emp I) 1 (ic (∃ g, Gst (Roo I q (x.toNat / q)) g ∧ x.toNat % q < g) (2 + room x.toNat) (1 + ic (Emp (Roo I q (x.toNat / q))) 0 1 + ic (∃ z, I z ∧ x.toNat / q < z / q) 1 0 + list x.toNat))
noncomputable def TBb (x : Int) (I : Nat → Prop) (a b q : Nat) (room list : Nat → Int) : Int := ic ((b : Int) < x ∨ x ≤ (a : Int) ∨ Emp I) 1 (ic (∃ g, Lst (Roo I q (x.toNat / q)) g ∧ g < x.toNat % q) (2 + room x.toNat) (1 + ic (Emp (Roo I q (x.toNat / q))) 0 1 + ic (∃ z, I z ∧ z / q < x.toNat / q) 1 0 + list x.toNat))
noncomputable def TB (c x : Int) (I : Nat → Prop) (a b q : Nat) (room list : Nat → Int) : Int := if c = 0 then TBp x I a b q room list else if c = 1 then TBd x I a b q room list else if c = 3 then TBn x I a b q room list else if c = 4 then TBb x I a b q room list else TBh x I a b q room
noncomputable def Tou (E : Nat) (lw : Nat → Nat) : Nat → Int → Int → Nat → (Nat → Prop) → Int
  | 0, _, _, _, _ => 0
  | n + 1, c, x, w, P => ic (w ≤ E ∨ Emp P) 1 (ic (ls P = gs P) 1 (TB c x (Ins P (ls P) (gs P)) (ls P) (gs P) (2 ^ lw w) (fun y => Tou E lw n c ((y % 2 ^ lw w : Nat) : Int) (lw w) (Roo (Ins P (ls P) (gs P)) (2 ^ lw w) (y / 2 ^ lw w))) (fun y => Tou E lw n c ((y / 2 ^ lw w : Nat) : Int) (w - lw w) (Lis (Ins P (ls P) (gs P)) (2 ^ lw w)))))
/-- TOUCHES of a room, of a list -/
noncomputable def tR (E : Nat) (lw : Nat → Nat) (n : Nat) (c : Int) (w : Nat) (I : Nat → Prop) (y : Nat) : Int := Tou E lw n c ((y % 2 ^ lw w : Nat) : Int) (lw w) (Roo I (2 ^ lw w) (y / 2 ^ lw w))
noncomputable def tL (E : Nat) (lw : Nat → Nat) (n : Nat) (c : Int) (w : Nat) (I : Nat → Prop) (y : Nat) : Int := Tou E lw n c ((y / 2 ^ lw w : Nat) : Int) (w - lw w) (Lis I (2 ^ lw w))
section
variable {E : Nat} {lw : Nat → Nat} {n : Nat} {c x : Int} {w : Nat} {P : Nat → Prop} {a b : Nat}
theorem Tou_e (h : w ≤ E ∨ Emp P) : Tou E lw (n + 1) c x w P = 1 := by
  unfold Tou
  exact ic_t h
theorem Tou_1 (A : Lst P a) (B : Gst P b) (e : a = b) : Tou E lw (n + 1) c x w P = 1 := by
  unfold Tou
  rw [ls_e A, gs_e B]
  by_cases h : w ≤ E ∨ Emp P
  · exact ic_t h
  · rw [ic_f h, ic_t e]
theorem Tou_s (h : E < w) (A : Lst P a) (B : Gst P b) (e : a ≠ b) : Tou E lw (n + 1) c x w P = TB c x (Ins P a b) a b (2 ^ lw w) (tR E lw n c w (Ins P a b)) (tL E lw n c w (Ins P a b)) := by
  unfold Tou
  rw [ls_e A, gs_e B, ic_f (fun z => z.elim (fun y => by omega) (Emp_e A)), ic_f e]
  rfl
end
theorem TB_b {c x : Int} {I : Nat → Prop} {a b q : Nat} {room list : Nat → Int} {m : Int} (hm : 0 ≤ m) (hr : ∀ y, 0 ≤ room y ∧ room y ≤ m) (hl : ∀ y, 0 ≤ list y ∧ list y ≤ m) : 0 ≤ TB c x I a b q room list ∧ TB c x I a b q room list ≤ m + 4 := by
  have r := hr
  have l := hl
  have e1 : 0 ≤ (1 : Int) ∧ (1 : Int) ≤ m + 4 := ⟨by omega, by omega⟩
  unfold TB
  by_cases c0 : c = 0
  · rw [if_pos c0]
    unfold TBp
    exact ic_b e1 (ic_b ⟨by have := l (cl x a b); omega, by have := l (cl x a b); omega⟩ ⟨by have := r (cl x a b); omega, by have := r (cl x a b); omega⟩)
  rw [if_neg c0]
  by_cases c1 : c = 1
  · rw [if_pos c1]
    unfold TBd TBe
    refine ic_b e1 ?_
    generalize (if x = (a : Int) then ls I else if x = (b : Int) then gs I else x.toNat) = y
    have mm : 1 ≤ ic (x = (a : Int) ∨ x = (b : Int)) 3 1 ∧ ic (x = (a : Int) ∨ x = (b : Int)) 3 1 ≤ 3 := ic_b ⟨by decide, by decide⟩ ⟨by decide, by decide⟩
    have r1 := r y
    have l1 := l y
    exact ic_b ⟨by omega, by omega⟩ (ic_b ⟨by omega, by omega⟩ ⟨by omega, by omega⟩)
  rw [if_neg c1]
  by_cases c3 : c = 3
  · rw [if_pos c3]
    unfold TBn
    have r1 := r x.toNat
    have l1 := l x.toNat
    have m1 : 0 ≤ ic (Emp (Roo I q (x.toNat / q))) 0 1 ∧ ic (Emp (Roo I q (x.toNat / q))) 0 1 ≤ 1 := ic_b ⟨by decide, by decide⟩ ⟨by decide, by decide⟩
    have m2 : 0 ≤ ic (∃ z, I z ∧ x.toNat / q < z / q) 1 0 ∧ ic (∃ z, I z ∧ x.toNat / q < z / q) 1 0 ≤ 1 := ic_b ⟨by decide, by decide⟩ ⟨by decide, by decide⟩
    exact ic_b e1 (ic_b ⟨by omega, by omega⟩ ⟨by omega, by omega⟩)
  rw [if_neg c3]
  by_cases c4 : c = 4
  · rw [if_pos c4]
    unfold TBb
    have r1 := r x.toNat
    have l1 := l x.toNat
    have m1 : 0 ≤ ic (Emp (Roo I q (x.toNat / q))) 0 1 ∧ ic (Emp (Roo I q (x.toNat / q))) 0 1 ≤ 1 := ic_b ⟨by decide, by decide⟩ ⟨by decide, by decide⟩
    have m2 : 0 ≤ ic (∃ z, I z ∧ z / q < x.toNat / q) 1 0 ∧ ic (∃ z, I z ∧ z / q < x.toNat / q) 1 0 ≤ 1 := ic_b ⟨by decide, by decide⟩ ⟨by decide, by decide⟩
    exact ic_b e1 (ic_b ⟨by omega, by omega⟩ ⟨by omega, by omega⟩)
  rw [if_neg c4]
  unfold TBh
  have r1 := r x.toNat
  exact ic_b e1 ⟨by omega, by omega⟩
theorem Tou_b {E : Nat} {lw : Nat → Nat} : ∀ (n : Nat) (c x : Int) (w : Nat) (P : Nat → Prop), 0 ≤ Tou E lw n c x w P ∧ Tou E lw n c x w P ≤ 4 * (n : Int) := by
  intro n
  induction n with
  | zero => intro c x w P; exact ⟨Int.le_refl _, Int.le_refl _⟩
  | succ n ih =>
    intro c x w P
    unfold Tou
    have e1 : 0 ≤ (1 : Int) ∧ (1 : Int) ≤ 4 * ((n + 1 : Nat) : Int) := ⟨by omega, by omega⟩
    have t := TB_b (c := c) (x := x) (I := Ins P (ls P) (gs P)) (a := ls P) (b := gs P) (q := 2 ^ lw w) (room := fun y => Tou E lw n c ((y % 2 ^ lw w : Nat) : Int) (lw w) (Roo (Ins P (ls P) (gs P)) (2 ^ lw w) (y / 2 ^ lw w))) (list := fun y => Tou E lw n c ((y / 2 ^ lw w : Nat) : Int) (w - lw w) (Lis (Ins P (ls P) (gs P)) (2 ^ lw w))) (m := 4 * (n : Int)) (by omega) (fun y => ih _ _ _ _) (fun y => ih _ _ _ _)
    exact ic_b e1 (ic_b e1 ⟨t.1, by omega⟩)
/-! shifts and masks -/
theorem sr_i {a s : Int32} {A n : Nat} (ha : a.toInt = (A : Int)) (hs : s.toInt = (n : Int)) (hn : n ≤ 31) : (a >>> (s &&& 31)).toInt = ((A / 2 ^ n : Nat) : Int) := by
  have H : ∀ j : Fin 32, ((Int32.ofNat j.val &&& 31).toBitVec.smod 32).toNat = j.val := by decide +kernel
  have e : s = Int32.ofNat n := Int32.toInt_inj.mp (by rw [Int32.toInt_ofNat_of_lt (by omega)]; exact hs)
  have t := H ⟨n, by omega⟩
  dsimp only at t
  rw [e]
  show (a.toBitVec.sshiftRight' ((Int32.ofNat n &&& 31).toBitVec.smod 32)).toInt = _
  rw [BitVec.toInt_sshiftRight', t]
  show a.toInt >>> n = _
  rw [ha, Int.shiftRight_eq_div_pow]
  exact (Int.natCast_ediv A (2 ^ n)).symm
theorem p2_i {s : Int32} {n : Nat} (hs : s.toInt = (n : Int)) (hn : n ≤ 16) : ((1 : Int32) <<< (s &&& 31)).toInt = ((2 ^ n : Nat) : Int) ∧ un (((1 : Int32) <<< (s &&& 31)) - 1) = 2 ^ n - 1 := by
  have H : ∀ j : Fin 17, ((1 : Int32) <<< (Int32.ofNat j.val &&& 31)).toInt = ((2 ^ j.val : Nat) : Int) ∧ un (((1 : Int32) <<< (Int32.ofNat j.val &&& 31)) - 1) = 2 ^ j.val - 1 := by decide +kernel
  have e : s = Int32.ofNat n := Int32.toInt_inj.mp (by rw [Int32.toInt_ofNat_of_lt (by omega)]; exact hs)
  have t := H ⟨n, by omega⟩
  dsimp only at t
  rw [e]
  exact t
theorem p2_b {n : Nat} (hn : n ≤ 16) : 1 ≤ 2 ^ n ∧ 2 ^ n ≤ 65536 := ⟨Nat.one_le_two_pow, Nat.pow_le_pow_right (n := 2) (by decide) hn⟩
theorem ms_i {v s : Int32} {V n : Nat} (hv : v.toInt = (V : Int)) (hs : s.toInt = (n : Int)) (hn : n ≤ 16) : (v &&& (((1 : Int32) <<< (s &&& 31)) - 1)).toInt = ((V % 2 ^ n : Nat) : Int) := by
  have b := p2_b hn
  have uv : un v = V := by have := un_i (a := v) (by omega); omega
  have e : un (v &&& (((1 : Int32) <<< (s &&& 31)) - 1)) = V % 2 ^ n := by rw [un_and, (p2_i hs hn).2, uv, Nat.and_two_pow_sub_one_eq_mod]
  have l : V % 2 ^ n < 2 ^ n := Nat.mod_lt _ (by omega)
  rw [un_o (by omega), e]
theorem sl_i {u s : Int32} {U n : Nat} (hu : u.toInt = (U : Int)) (hs : s.toInt = (n : Int)) (hn : n ≤ 16) (hb : U * 2 ^ n < 2147483648) : (u <<< (s &&& 31)).toInt = ((U * 2 ^ n : Nat) : Int) := by
  have H : ∀ j : Fin 32, ((Int32.ofNat j.val &&& 31).toBitVec.smod 32).toNat = j.val := by decide +kernel
  have e : s = Int32.ofNat n := Int32.toInt_inj.mp (by rw [Int32.toInt_ofNat_of_lt (by omega)]; exact hs)
  have t := H ⟨n, by omega⟩
  dsimp only at t
  have uu : un u = U := by have := un_i (a := u) (by omega); omega
  have g : un (u <<< (s &&& 31)) = U * 2 ^ n := by
    rw [e]
    show (u.toBitVec <<< ((Int32.ofNat n &&& 31).toBitVec.smod 32)).toNat = _
    rw [BitVec.shiftLeft_eq', t, BitVec.toNat_shiftLeft, Nat.shiftLeft_eq]
    show un u * 2 ^ n % 2 ^ 32 = _
    rw [uu]
    exact Nat.mod_eq_of_lt (by omega)
  rw [un_o (by omega), g]
theorem dm_le {A B q : Nat} (h : A ≤ B) (e : A / q = B / q) : A % q ≤ B % q := by
  have h1 := Nat.div_add_mod A q
  have h2 := Nat.div_add_mod B q
  rw [e] at h1
  omega
def lwf (m : Int32) (w : Nat) : Nat := if m = 0 then (w + 1) / 2 else w / 2
theorem lwf_b {m : Int32} {w : Nat} (h : 2 ≤ w) : 1 ≤ lwf m w ∧ lwf m w < w := by
  unfold lwf
  split <;> omega
theorem mR_w {δ d : dp} {b : Nat} (w : q_R d = q_R δ) : mR d b = mR δ b := by funext i; unfold mR; rw [w]
theorem dq_lt {A B q : Nat} (e : A / q = B / q) : A % q < B % q ↔ A < B := by
  have h1 := Nat.div_add_mod A q
  have h2 := Nat.div_add_mod B q
  rw [e] at h1
  omega
theorem dq_u {A B q : Nat} (e : A / q = B / q) (m : A % q = B % q) : A = B := by
  have h1 := Nat.div_add_mod A q
  have h2 := Nat.div_add_mod B q
  rw [e, m] at h1
  omega
theorem Gst_u {P : Nat → Prop} {a b : Nat} (h : Gst P a) (k : Gst P b) : a = b := Nat.le_antisymm (k.2 a h.1) (h.2 b k.1)
theorem Lst_u {P : Nat → Prop} {a b : Nat} (h : Lst P a) (k : Lst P b) : a = b := Nat.le_antisymm (h.2 b k.1) (k.2 a h.1)
end
section
/-! the reference's TOUCHES by HALVES -/
def DS (R : Nat → Int) (a e : Nat) : Nat → Prop := fun y => ∃ k, a ≤ k ∧ k < e ∧ R k = (y : Int)
def RG (R : Nat → Int) (a e _w : Nat) : Prop := (∀ i j, a ≤ i → i < j → j < e → R i < R j) ∧ ∀ i, a ≤ i → i < e → 0 ≤ R i ∧ True
theorem RG.m {R : Nat → Int} {a e w : Nat} (h : RG R a e w) {i j : Nat} (p : a ≤ i) (q : i ≤ j) (r : j < e) : R i ≤ R j := by
  by_cases z : i = j
  · rw [z]; exact Int.le_refl _
  · have := h.1 i j p (by omega) r; omega
theorem DS_l {R : Nat → Int} {a e w : Nat} (h : RG R a e w) (l : a < e) : Lst (DS R a e) (R a).toNat := ⟨⟨a, by omega, l, by have := (h.2 a (by omega) l).1; omega⟩, fun y ⟨k, p, q, r⟩ => by have := h.m (Nat.le_refl _) p q; omega⟩
theorem DS_g {R : Nat → Int} {a e w : Nat} (h : RG R a e w) (l : a < e) : Gst (DS R a e) (R (e - 1)).toNat := ⟨⟨e - 1, by omega, by omega, by have := (h.2 (e - 1) (by omega) (by omega)).1; omega⟩, fun y ⟨k, p, q, r⟩ => by have := h.m p (by omega : k ≤ e - 1) (by omega); omega⟩
theorem DS_0 {R : Nat → Int} {a e : Nat} (l : e ≤ a) : Emp (DS R a e) := fun y ⟨k, p, q, _⟩ => by omega
theorem DS_n {R : Nat → Int} {a e w : Nat} (h : RG R a e w) (z : Emp (DS R a e)) : e ≤ a := Nat.not_lt.mp (fun l => z _ (DS_l h l).1)
theorem DS_I {R : Nat → Int} {a e w : Nat} (h : RG R a e w) (l : a < e) : Ins (DS R a e) (R a).toNat (R (e - 1)).toNat = DS R (a + 1) (e - 1) := by
  funext y
  refine propext ⟨fun ⟨⟨k, p, q, r⟩, k1, k2⟩ => ⟨k, ?_, ?_, r⟩, fun ⟨k, p, q, r⟩ => ⟨⟨k, by omega, by omega, r⟩, ?_, ?_⟩⟩
  · refine Nat.not_lt.mp (fun z => ?_)
    have : k = a := by omega
    rw [this] at r
    omega
  · refine Nat.not_le.mp (fun z => ?_)
    have : k = e - 1 := by omega
    rw [this] at r
    omega
  · have h1 := h.1 a k (Nat.le_refl _) (by omega) (by omega)
    have h2 := (h.2 a (Nat.le_refl _) l).1
    omega
  · have h1 := h.1 k (e - 1) (by omega) (by omega) (by omega)
    have h2 := (h.2 k (by omega) (by omega)).1
    omega
theorem RG.s {R : Nat → Int} {a e w a' e' : Nat} (h : RG R a e w) (p : a ≤ a') (q : e' ≤ e) : RG R a' e' w := ⟨fun i j x y z => h.1 i j (by omega) y (by omega), fun i x y => h.2 i (by omega) (by omega)⟩
theorem DS_push {R R1 : Nat → Int} {T0 T V : Nat} (hT : T0 ≤ T) (h1 : R1 T = (V : Int)) (h2 : ∀ i, T0 ≤ i → i < T → R1 i = R i) (v : Nat) : DS R1 T0 (T + 1) v ↔ DS R T0 T v ∨ v = V := by
  constructor
  · rintro ⟨k, p, q, r⟩
    by_cases z : k = T
    · rw [z, h1] at r; exact Or.inr (by omega)
    · exact Or.inl ⟨k, p, by omega, by rw [← h2 k p (by omega)]; exact r⟩
  · rintro (⟨k, p, q, r⟩ | z)
    · exact ⟨k, p, by omega, by rw [h2 k p q]; exact r⟩
    · exact ⟨T, hT, by omega, by rw [h1, z]⟩
theorem DS_c {R R1 : Nat → Int} {a e : Nat} (h : ∀ i, a ≤ i → i < e → R1 i = R i) : DS R1 a e = DS R a e := by
  funext y
  exact propext ⟨fun ⟨k, p, q, r⟩ => ⟨k, p, q, by rw [← h k p q]; exact r⟩, fun ⟨k, p, q, r⟩ => ⟨k, p, q, by rw [h k p q]; exact r⟩⟩
theorem RG_c {R R1 : Nat → Int} {a e w : Nat} (h : ∀ i, a ≤ i → i < e → R1 i = R i) (G : RG R a e w) : RG R1 a e w := ⟨fun i j p q r => by rw [h i p (by omega), h j (by omega) r]; exact G.1 i j p q r, fun i p q => by rw [h i p q]; exact G.2 i p q⟩
/-- rows but laid untouched, and laid below T0 -/
def RFm (b T0 : Nat) (δ d : dp) : Prop := (∀ b', b' ≠ b → q_R d b' = q_R δ b') ∧ ∀ i, i < T0 → mR d b i = mR δ b i
theorem RFm.r {b T0 : Nat} {δ : dp} : RFm b T0 δ δ := ⟨fun _ _ => rfl, fun _ _ => rfl⟩
theorem RFm.t {b T0 T1 : Nat} {δ d e : dp} (h : RFm b T0 δ d) (k : RFm b T1 d e) (l : T0 ≤ T1) : RFm b T0 δ e := ⟨fun b' n => (k.1 b' n).trans (h.1 b' n), fun i hi => (k.2 i (by omega)).trans (h.2 i hi)⟩
theorem RFm.push {b T0 T : Nat} {δ d e : dp} {v : Int32} (h : RFm b T0 δ d) (l : T0 ≤ T) (e1 : e = s_R d b T v) : RFm b T0 δ e := ⟨fun b' n => by rw [e1, rR_o n]; exact h.1 b' n, fun i hi => by
  rw [← h.2 i hi, e1]
  show (q_R (s_R d b T v) b i).toInt = _
  rw [qR_sR, if_neg (fun z => by omega)]
  rfl⟩
section
variable {N : Nat} {g : gp} {a0 b : Nat}
theorem r_lower {x1 : Int32} {δ : dp} {w : Nat} (hw : x1.toInt = (w : Int)) (ww : w ≤ 16) : hs (D_X12_lowerBits N g a0 x1 δ) (fun r => r.2 = δ ∧ r.1.toInt = ((lwf (q_I δ 12 12 a0) w : Nat) : Int)) := by
  have z0 : (0 : Int32).toInt = 0 := rfl
  have t2 := ti_div (c := 2) (n := 2) rfl (by decide) x1 (by omega)
  have t3 := te_mulr (c := 2) (n := 2) rfl (x1 / 2) (by omega) (by omega)
  have t4 := te_sub x1 (x1 / 2 * 2) (by omega) (by omega)
  have t5 := te_addc (c := 1) (n := 1) rfl (x1 / 2) (by omega) (by omega)
  unfold D_X12_lowerBits J_X12_lowerBits_30 lwf
  refine hs_ite (fun c => hs_some ⟨rfl, ?_⟩) (fun c => hs_ite (fun c2 => hs_some ⟨rfl, ?_⟩) (fun c2 => hs_some ⟨rfl, ?_⟩))
  · have c1 := o_eq c
    show (x1 / 2).toInt = _
    split <;> omega
  · have c1 := o_ne c
    rw [if_pos c2]
    show (x1 / 2 + 1).toInt = _
    omega
  · rw [if_neg c2]
    show (x1 / 2).toInt = _
    omega
theorem r_listsL (hO : q_O g 12 35 a0 = some b) (hN : q_N g b = 14000) {a e l w T0 : Nat} {x1 x2 x3 : Int32} {δ : dp} (h2 : x2.toInt = (e : Int)) (h3 : x3.toInt = (l : Int)) (l16 : l ≤ 16) (ae : a < e) (eT : e ≤ T0) (T14 : T0 ≤ 14000) (G : RG (mR δ b) a e w) : ∀ (m k T : Nat) (x4 x5 : Int32) (d : dp), x5.toInt = (k : Int) → x4.toInt = (T0 : Int) → (q_I d 12 36 a0).toInt = (T : Int) → a + 1 ≤ k → (k ≤ e - 1 ∨ k = a + 1) → T0 ≤ T → T ≤ 14000 → kp [(12, 36)] δ d → RFm b T0 δ d → (∀ i j, T0 ≤ i → i < j → j < T → mR d b i < mR d b j) → (∀ v : Nat, DS (mR d b) T0 T v ↔ ∃ i, a + 1 ≤ i ∧ i < k ∧ (mR δ b i).toNat / 2 ^ l = v) → (∀ i, T0 ≤ i → i < T → 0 ≤ mR d b i) → hs (L_X12_lists_11 N g a0 x1 x2 x3 m x4 x5 d) (fun r => r.1.toInt = (T0 : Int) ∧ kp [(12, 36)] δ r.2 ∧ RFm b T0 δ r.2 ∧ ∃ T' : Nat, (q_I r.2 12 36 a0).toInt = (T' : Int) ∧ T0 ≤ T' ∧ T' ≤ 14000 ∧ (∀ i j, T0 ≤ i → i < j → j < T' → mR r.2 b i < mR r.2 b j) ∧ (∀ i, T0 ≤ i → i < T' → 0 ≤ mR r.2 b i) ∧ DS (mR r.2 b) T0 T' = Lis (DS (mR δ b) (a + 1) (e - 1)) (2 ^ l)) := by
  have z0 : (0 : Int32).toInt = 0 := rfl
  have te := te_subc (c := 1) (n := 1) rfl x2 (by omega) (by omega)
  intro m
  induction m with
  | zero => intro k T x4 x5 d _ _ _ _ _ _ _ _ _ _ _ _; exact hs_none
  | succ m ih =>
    intro k T x4 x5 d h5 h4 hT ka kk TT0 TT1 kpd F st se nn
    unfold L_X12_lists_11 J_X12_lists_58 J_X12_lists_79
    refine hs_ite (fun c => ?_) (fun c => ?_)
    · have c1 := o_le c
      refine hs_some ⟨h4, kpd, F, T, hT, TT0, TT1, st, nn, ?_⟩
      funext v
      refine propext ((se v).trans ⟨fun ⟨i, p, q, r⟩ => ⟨(mR δ b i).toNat, ⟨i, p, by omega, by have := (G.2 i (by omega) (by omega)).1; omega⟩, r⟩, fun ⟨y, ⟨i, p, q, r⟩, s⟩ => ⟨i, p, by omega, by rw [r]; exact s⟩⟩)
    · have c1 := o_nle c
      have ke : k < e - 1 := by omega
      refine hs_at hO (hs_gd (fun _ => ?_))
      have ix : x5.toNatClampNeg = k := by have := ti_tn x5; omega
      rw [ix]
      have eR : mR d b k = mR δ b k := F.2 k (by omega)
      have Gk := G.2 k (by omega) (by omega)
      refine hs_biv (fun v ev => ?_)
      have hv : v.toInt = (((mR δ b k).toNat / 2 ^ l : Nat) : Int) := by
        rw [ev]
        exact sr_i (A := (mR δ b k).toNat) (by show mR d b k = _; omega) h3 (by omega)
      clear ev
      have t5 := te_addc (c := 1) (n := 1) rfl x5 (by omega) (by omega)
      -- one more, or none
      have le : ∀ i, T0 ≤ i → i < T → mR d b i ≤ (((mR δ b k).toNat / 2 ^ l : Nat) : Int) := fun i p q => by
        have n0 := nn i p q
        obtain ⟨j, j1, j2, j3⟩ := (se (mR d b i).toNat).mp ⟨i, p, q, by omega⟩
        have h1 := G.m (i := j) (j := k) (by omega) (by omega) (by omega)
        have := Nat.div_le_div_right (c := 2 ^ l) (show (mR δ b j).toNat ≤ (mR δ b k).toNat by omega)
        omega
      have push : (∀ i, T0 ≤ i → i < T → mR d b i < (((mR δ b k).toNat / 2 ^ l : Nat) : Int)) → hs ((q_O g 12 35 a0).bind fun b_11 => if (q_I d 12 36 a0) < 0 ∨ q_N g b_11 ≤ (q_I d 12 36 a0).toNatClampNeg then none else bd (s_R d b_11 (q_I d 12 36 a0).toNatClampNeg v) fun δ_13 => bd (s_I δ_13 12 36 a0 ((q_I δ_13 12 36 a0) + (1 : Int32))) fun δ_15 => bi (x5 + 1) fun x_17 => L_X12_lists_11 N g a0 x1 x2 x3 m x4 x_17 δ_15) (fun r => r.1.toInt = (T0 : Int) ∧ kp [(12, 36)] δ r.2 ∧ RFm b T0 δ r.2 ∧ ∃ T' : Nat, (q_I r.2 12 36 a0).toInt = (T' : Int) ∧ T0 ≤ T' ∧ T' ≤ 14000 ∧ (∀ i j, T0 ≤ i → i < j → j < T' → mR r.2 b i < mR r.2 b j) ∧ (∀ i, T0 ≤ i → i < T' → 0 ≤ mR r.2 b i) ∧ DS (mR r.2 b) T0 T' = Lis (DS (mR δ b) (a + 1) (e - 1)) (2 ^ l)) := fun lt => by
        refine hs_at hO (hs_gd (fun gd => hs_bdv (fun d1 e1 => hs_bdv (fun d2 e2 => hs_biv (fun y ey => ?_)))))
        have iT : (q_I d 12 36 a0).toNatClampNeg = T := by have := ti_tn (q_I d 12 36 a0); omega
        rw [iT] at e1 gd
        rw [hN] at gd
        have q1 : q_I d1 12 36 a0 = q_I d 12 36 a0 := by rw [e1]; rfl
        have t7 := te_addc (c := 1) (n := 1) rfl (q_I d 12 36 a0) (by omega) (by omega)
        rw [← ey] at t5
        have w2 : q_R d2 = q_R d1 := by rw [e2]; rfl
        have F1 := F.push TT0 e1
        have r2 : ∀ i, mR d2 b i = if i = T then (((mR δ b k).toNat / 2 ^ l : Nat) : Int) else mR d b i := fun i => by
          rw [mR_w w2]
          show (q_R d1 b i).toInt = _
          rw [e1, qR_sR]
          by_cases z : i = T
          · rw [if_pos ⟨rfl, z⟩, if_pos z]; exact hv
          · rw [if_neg (fun y => z y.2), if_neg z]; rfl
        have rT : mR d2 b T = (((mR δ b k).toNat / 2 ^ l : Nat) : Int) := by rw [r2, if_pos rfl]
        have ro : ∀ i, T0 ≤ i → i < T → mR d2 b i = mR d b i := fun i _ q => by rw [r2, if_neg (by omega)]
        refine ih (k + 1) (T + 1) x4 y d2 (by omega) h4 (by rw [e2, rI_s, q1]; omega) (by omega) (Or.inl (by omega)) (by omega) (by have := gd; omega) (kp_w (by decide) (kp_I (kp_N kpd (by rw [e1]; rfl)) e2)) ⟨fun b' n => by rw [w2]; exact F1.1 b' n, fun i hi => by rw [mR_w w2]; exact F1.2 i hi⟩ (fun i j p q r => ?_) (fun u => ?_) (fun i p q => ?_)
        · by_cases z : j = T
          · rw [z, rT, ro i p (by omega)]; exact lt i p (by omega)
          · rw [ro i p (by omega), ro j (by omega) (by omega)]; exact st i j p q (by omega)
        · rw [DS_push TT0 rT ro u, se u]
          constructor
          · rintro (⟨i, p, q, r⟩ | z)
            · exact ⟨i, p, by omega, r⟩
            · exact ⟨k, ka, by omega, z.symm⟩
          · rintro ⟨i, p, q, r⟩
            by_cases z : i = k
            · rw [z] at r; exact Or.inr r.symm
            · exact Or.inl ⟨i, p, by omega, r⟩
        · by_cases z : i = T
          · rw [z, rT]; exact Int.natCast_nonneg _
          · rw [ro i p (by omega)]; exact nn i p (by omega)
      refine hs_ite (fun c2 => push (fun i p q => by have := o_le c2; omega)) (fun c2 => ?_)
      have c3 := o_nle c2
      have tT := te_subc (c := 1) (n := 1) rfl (q_I d 12 36 a0) (by omega) (by omega)
      refine hs_at hO (hs_gd (fun _ => ?_))
      have iT : (q_I d 12 36 a0 - 1).toNatClampNeg = T - 1 := by have := ti_tn (q_I d 12 36 a0 - 1); omega
      rw [iT]
      clear tT iT
      have vT : (q_R d b (T - 1)).toInt = mR d b (T - 1) := rfl
      refine hs_ite (fun c4 => ?_) (fun c4 => push (fun i p q => ?_))
      · have c5 := o_eq c4
        refine hs_biv (fun y ey => ?_)
        rw [← ey] at t5
        refine ih (k + 1) T x4 y d (by omega) h4 hT (by omega) (Or.inl (by omega)) TT0 TT1 kpd F st (fun u => ?_) nn
        rw [se u]
        constructor
        · rintro ⟨i, p, q, r⟩
          exact ⟨i, p, by omega, r⟩
        · rintro ⟨i, p, q, r⟩
          by_cases z : i = k
          · rw [z] at r
            exact (se u).mp ⟨T - 1, by omega, by omega, by omega⟩
          · exact ⟨i, p, by omega, r⟩
      · have c5 := o_ne c4
        have l1 := le (T - 1) (by omega) (by omega)
        by_cases z : i = T - 1
        · rw [z]; omega
        · have := st i (T - 1) p (by omega) (by omega); omega
theorem r_lists (hO : q_O g 12 35 a0 = some b) (hN : q_N g b = 14000) {a e l w : Nat} {x1 x2 x3 : Int32} {δ : dp} (h1 : x1.toInt = (a : Int)) (h2 : x2.toInt = (e : Int)) (h3 : x3.toInt = (l : Int)) (hT : (q_I δ 12 36 a0).toInt = (e : Int)) (lw : l ≤ w) (w16 : w ≤ 16) (ae : a < e) (e14 : e ≤ 14000) (G : RG (mR δ b) a e w) : hs (D_X12_lists N g a0 x1 x2 x3 δ) (fun r => r.1.toInt = (e : Int) ∧ kp [(12, 36)] δ r.2 ∧ RFm b e δ r.2 ∧ ∃ T' : Nat, (q_I r.2 12 36 a0).toInt = (T' : Int) ∧ e ≤ T' ∧ T' ≤ 14000 ∧ RG (mR r.2 b) e T' (w - l) ∧ DS (mR r.2 b) e T' = Lis (DS (mR δ b) (a + 1) (e - 1)) (2 ^ l)) := by
  have t1 := te_addc (c := 1) (n := 1) rfl x1 (by omega) (by omega)
  unfold D_X12_lists
  refine hs_biv (fun y ey => hs_biv (fun z ez => ?_))
  rw [← ez] at t1
  refine hs_mono (r_listsL hO hN h2 h3 (by omega) ae (Nat.le_refl _) e14 G N (a + 1) e y z δ (by omega) (by rw [ey]; exact hT) hT (Nat.le_refl _) (Or.inr rfl) (Nat.le_refl _) e14 (kp_w (by decide) kp_r) RFm.r (fun i j p q r => by omega) (fun v => ⟨fun ⟨k, p, q, _⟩ => by omega, fun ⟨i, p, q, _⟩ => by omega⟩) (fun i p q => by omega)) (fun r hr => ?_)
  obtain ⟨g1, g2, g3, T', g4, g5, g6, g7, g8, g9⟩ := hr
  exact ⟨g1, g2, g3, T', g4, g5, g6, ⟨g7, fun i p q => ⟨g8 i p q, trivial⟩⟩, g9⟩
theorem r_roomsL (hO : q_O g 12 35 a0 = some b) (hN : q_N g b = 14000) {a e l w T0 u : Nat} {x1 x2 x3 x4 : Int32} {δ : dp} (h2 : x2.toInt = (e : Int)) (h3 : x3.toInt = (l : Int)) (h4 : x4.toInt = (u : Int)) (l16 : l ≤ 16) (ae : a < e) (eT : e ≤ T0) (T14 : T0 ≤ 14000) (G : RG (mR δ b) a e w) : ∀ (m k T : Nat) (x5 x6 : Int32) (d : dp), x6.toInt = (k : Int) → x5.toInt = (T0 : Int) → (q_I d 12 36 a0).toInt = (T : Int) → a + 1 ≤ k → (k ≤ e - 1 ∨ k = a + 1) → T0 ≤ T → T ≤ 14000 → kp [(12, 36)] δ d → RFm b T0 δ d → (∀ i j, T0 ≤ i → i < j → j < T → mR d b i < mR d b j) → (∀ v : Nat, DS (mR d b) T0 T v ↔ ∃ i, a + 1 ≤ i ∧ i < k ∧ (mR δ b i).toNat / 2 ^ l = u ∧ (mR δ b i).toNat % 2 ^ l = v) → (∀ i, T0 ≤ i → i < T → 0 ≤ mR d b i) → hs (L_X12_rooms_11 N g a0 x1 x2 x3 x4 m x5 x6 d) (fun r => r.1.toInt = (T0 : Int) ∧ kp [(12, 36)] δ r.2 ∧ RFm b T0 δ r.2 ∧ ∃ T' : Nat, (q_I r.2 12 36 a0).toInt = (T' : Int) ∧ T0 ≤ T' ∧ T' ≤ 14000 ∧ (∀ i j, T0 ≤ i → i < j → j < T' → mR r.2 b i < mR r.2 b j) ∧ (∀ i, T0 ≤ i → i < T' → 0 ≤ mR r.2 b i) ∧ DS (mR r.2 b) T0 T' = Roo (DS (mR δ b) (a + 1) (e - 1)) (2 ^ l) u) := by
  have z0 : (0 : Int32).toInt = 0 := rfl
  have te := te_subc (c := 1) (n := 1) rfl x2 (by omega) (by omega)
  intro m
  induction m with
  | zero => intro k T x5 x6 d _ _ _ _ _ _ _ _ _ _ _ _; exact hs_none
  | succ m ih =>
    intro k T x5 x6 d h6 h5 hT ka kk TT0 TT1 kpd F st se nn
    unfold L_X12_rooms_11 J_X12_rooms_68
    refine hs_ite (fun c => ?_) (fun c => ?_)
    · have c1 := o_le c
      refine hs_some ⟨h5, kpd, F, T, hT, TT0, TT1, st, nn, ?_⟩
      funext v
      refine propext ((se v).trans ⟨fun ⟨i, p, q, r, s⟩ => ⟨(mR δ b i).toNat, ⟨i, p, by omega, by have := (G.2 i (by omega) (by omega)).1; omega⟩, r, s⟩, fun ⟨y, ⟨i, p, q, r⟩, s, t⟩ => ⟨i, p, by omega, by rw [r]; exact s, by rw [r]; exact t⟩⟩)
    · have c1 := o_nle c
      have ke : k < e - 1 := by omega
      refine hs_at hO (hs_gd (fun _ => ?_))
      have ix : x6.toNatClampNeg = k := by have := ti_tn x6; omega
      rw [ix]
      have eR : mR d b k = mR δ b k := F.2 k (by omega)
      have Gk := G.2 k (by omega) (by omega)
      have ek : (q_R d b k).toInt = (((mR δ b k).toNat : Nat) : Int) := by show mR d b k = _; omega
      have hv := sr_i ek h3 (by omega)
      have t6 := te_addc (c := 1) (n := 1) rfl x6 (by omega) (by omega)
      refine hs_ite (fun c2 => ?_) (fun c2 => ?_)
      · have c3 := o_eq c2
        have uk : (mR δ b k).toNat / 2 ^ l = u := by omega
        refine hs_at hO (hs_at hO (hs_gd (fun _ => hs_gd (fun gd => hs_bdv (fun d1 e1 => hs_bdv (fun d2 e2 => hs_biv (fun y ey => ?_)))))))
        have iT : (q_I d 12 36 a0).toNatClampNeg = T := by have := ti_tn (q_I d 12 36 a0); omega
        rw [iT] at e1 gd
        rw [hN] at gd
        have hm := ms_i ek h3 l16
        have q1 : q_I d1 12 36 a0 = q_I d 12 36 a0 := by rw [e1]; rfl
        have t7 := te_addc (c := 1) (n := 1) rfl (q_I d 12 36 a0) (by omega) (by omega)
        rw [← ey] at t6
        have w2 : q_R d2 = q_R d1 := by rw [e2]; rfl
        have F1 := F.push TT0 e1
        have r2 : ∀ i, mR d2 b i = if i = T then (((mR δ b k).toNat % 2 ^ l : Nat) : Int) else mR d b i := fun i => by
          rw [mR_w w2]
          show (q_R d1 b i).toInt = _
          rw [e1, qR_sR]
          by_cases z : i = T
          · rw [if_pos ⟨rfl, z⟩, if_pos z]; exact hm
          · rw [if_neg (fun y => z y.2), if_neg z]; rfl
        have rT : mR d2 b T = (((mR δ b k).toNat % 2 ^ l : Nat) : Int) := by rw [r2, if_pos rfl]
        have ro : ∀ i, T0 ≤ i → i < T → mR d2 b i = mR d b i := fun i _ q => by rw [r2, if_neg (by omega)]
        have lt : ∀ i, T0 ≤ i → i < T → mR d b i < (((mR δ b k).toNat % 2 ^ l : Nat) : Int) := fun i p q => by
          have n0 := nn i p q
          obtain ⟨j, j1, j2, j3, j4⟩ := (se (mR d b i).toNat).mp ⟨i, p, q, by omega⟩
          have h1 := G.1 j k (by omega) j2 (by omega)
          have h0 := (G.2 j (by omega) (by omega)).1
          have := (dq_lt (j3.trans uk.symm)).mpr (show (mR δ b j).toNat < (mR δ b k).toNat by omega)
          omega
        refine ih (k + 1) (T + 1) x5 y d2 (by omega) h5 (by rw [e2, rI_s, q1]; omega) (by omega) (Or.inl (by omega)) (by omega) (by have := gd; omega) (kp_w (by decide) (kp_I (kp_N kpd (by rw [e1]; rfl)) e2)) ⟨fun b' n => by rw [w2]; exact F1.1 b' n, fun i hi => by rw [mR_w w2]; exact F1.2 i hi⟩ (fun i j p q r => ?_) (fun v => ?_) (fun i p q => ?_)
        · by_cases z : j = T
          · rw [z, rT, ro i p (by omega)]; exact lt i p (by omega)
          · rw [ro i p (by omega), ro j (by omega) (by omega)]; exact st i j p q (by omega)
        · rw [DS_push TT0 rT ro v, se v]
          constructor
          · rintro (⟨i, p, q, r, s⟩ | z)
            · exact ⟨i, p, by omega, r, s⟩
            · exact ⟨k, ka, by omega, uk, z.symm⟩
          · rintro ⟨i, p, q, r, s⟩
            by_cases z : i = k
            · rw [z] at s; exact Or.inr s.symm
            · exact Or.inl ⟨i, p, by omega, r, s⟩
        · by_cases z : i = T
          · rw [z, rT]; omega
          · rw [ro i p (by omega)]; exact nn i p (by omega)
      · have c3 := o_ne c2
        refine hs_biv (fun y ey => ?_)
        rw [← ey] at t6
        refine ih (k + 1) T x5 y d (by omega) h5 hT (by omega) (Or.inl (by omega)) TT0 TT1 kpd F st (fun v => ?_) nn
        rw [se v]
        constructor
        · rintro ⟨i, p, q, r, s⟩
          exact ⟨i, p, by omega, r, s⟩
        · rintro ⟨i, p, q, r, s⟩
          by_cases z : i = k
          · rw [z] at r
            exfalso; omega
          · exact ⟨i, p, by omega, r, s⟩
theorem r_rooms (hO : q_O g 12 35 a0 = some b) (hN : q_N g b = 14000) {a e l w u : Nat} {x1 x2 x3 x4 : Int32} {δ : dp} (h1 : x1.toInt = (a : Int)) (h2 : x2.toInt = (e : Int)) (h3 : x3.toInt = (l : Int)) (h4 : x4.toInt = (u : Int)) (hT : (q_I δ 12 36 a0).toInt = (e : Int)) (l16 : l ≤ 16) (ae : a < e) (e14 : e ≤ 14000) (G : RG (mR δ b) a e w) : hs (D_X12_rooms N g a0 x1 x2 x3 x4 δ) (fun r => r.1.toInt = (e : Int) ∧ kp [(12, 36)] δ r.2 ∧ RFm b e δ r.2 ∧ ∃ T' : Nat, (q_I r.2 12 36 a0).toInt = (T' : Int) ∧ e ≤ T' ∧ T' ≤ 14000 ∧ RG (mR r.2 b) e T' l ∧ DS (mR r.2 b) e T' = Roo (DS (mR δ b) (a + 1) (e - 1)) (2 ^ l) u) := by
  have t1 := te_addc (c := 1) (n := 1) rfl x1 (by omega) (by omega)
  unfold D_X12_rooms
  refine hs_biv (fun y ey => hs_biv (fun z ez => ?_))
  rw [← ez] at t1
  refine hs_mono (r_roomsL hO hN h2 h3 h4 l16 ae (Nat.le_refl _) e14 G N (a + 1) e y z δ (by omega) (by rw [ey]; exact hT) hT (Nat.le_refl _) (Or.inr rfl) (Nat.le_refl _) e14 (kp_w (by decide) kp_r) RFm.r (fun i j p q r => by omega) (fun v => ⟨fun ⟨k, p, q, _⟩ => by omega, fun ⟨i, p, q, _⟩ => by omega⟩) (fun i p q => by omega)) (fun r hr => ?_)
  obtain ⟨g1, g2, g3, T', g4, g5, g6, g7, g8, g9⟩ := hr
  exact ⟨g1, g2, g3, T', g4, g5, g6, ⟨g7, fun i p q => ⟨g8 i p q, trivial⟩⟩, g9⟩
/-- how many are such: none, one, more -/
def CN (P : Nat → Prop) (lo hi : Nat) (c : Int) : Prop := (c = 0 ∧ ∀ i, lo ≤ i → i < hi → ¬ P i) ∨ (c = 1 ∧ ∃ i, lo ≤ i ∧ i < hi ∧ P i ∧ ∀ j, lo ≤ j → j < hi → P j → j = i) ∨ (2 ≤ c ∧ ∃ i j, lo ≤ i ∧ i < j ∧ j < hi ∧ P i ∧ P j)
theorem CN_y {P : Nat → Prop} {lo k : Nat} {c : Int} (h : CN P lo k c) (lk : lo ≤ k) (p : P k) : CN P lo (k + 1) (c + 1) := by
  rcases h with ⟨h1, h2⟩ | ⟨h1, i, a, b, d, _⟩ | ⟨h1, i, j, a, b, d, e⟩
  · refine Or.inr (Or.inl ⟨by omega, k, lk, by omega, p, fun j x y z => ?_⟩)
    by_cases w : j = k
    · exact w
    · exact absurd z (h2 j x (by omega))
  · exact Or.inr (Or.inr ⟨by omega, i, k, a, b, by omega, d, p⟩)
  · exact Or.inr (Or.inr ⟨by omega, i, j, a, b, by omega, e⟩)
theorem CN_n {P : Nat → Prop} {lo k : Nat} {c : Int} (h : CN P lo k c) (p : ¬ P k) : CN P lo (k + 1) c := by
  rcases h with ⟨h1, h2⟩ | ⟨h1, i, a, b, d, h2⟩ | ⟨h1, i, j, a, b, d, e⟩
  · refine Or.inl ⟨h1, fun i x y z => ?_⟩
    by_cases w : i = k
    · rw [w] at z; exact p z
    · exact h2 i x (by omega) z
  · refine Or.inr (Or.inl ⟨h1, i, a, by omega, d, fun j x y z => ?_⟩)
    by_cases w : j = k
    · rw [w] at z; exact absurd z p
    · exact h2 j x (by omega) z
  · exact Or.inr (Or.inr ⟨h1, i, j, a, b, by omega, e⟩)
theorem r_manyL (hO : q_O g 12 35 a0 = some b) {a e l y w : Nat} {x1 x2 x3 x4 : Int32} {δ : dp} (h1 : x1.toInt = (y : Int)) (h4 : x4.toInt = (e : Int)) (l16 : l ≤ 16) (ae : a < e) (e14 : e ≤ 14000) (G : RG (mR δ b) a e w) : ∀ (m k : Nat) (x5 x6 x7 : Int32), x5.toInt = (l : Int) → x7.toInt = (k : Int) → a + 1 ≤ k → (k ≤ e - 1 ∨ k = a + 1) → 0 ≤ x6.toInt → x6.toInt ≤ (k : Int) → CN (fun i => (mR δ b i).toNat / 2 ^ l = y / 2 ^ l) (a + 1) k x6.toInt → hs (L_X12_roomMany_15 N g a0 x1 x2 x3 x4 m x5 x6 x7 δ) (fun r => r.2 = δ ∧ CN (fun i => (mR δ b i).toNat / 2 ^ l = y / 2 ^ l) (a + 1) (e - 1) r.1.toInt) := by
  have z0 : (0 : Int32).toInt = 0 := rfl
  have z1 : (1 : Int32).toInt = 1 := rfl
  have te := te_subc (c := 1) (n := 1) rfl x4 (by omega) (by omega)
  intro m
  induction m with
  | zero => intro k x5 x6 x7 _ _ _ _ _ _ _; exact hs_none
  | succ m ih =>
    intro k x5 x6 x7 h5 h7 ka kk y0 y1 C
    unfold L_X12_roomMany_15 J_X12_roomMany_48
    refine hs_ite (fun c => ?_) (fun c => ?_)
    · have c1 := o_le c
      refine hs_some ⟨rfl, ?_⟩
      rcases kk with kk | kk
      · rw [show e - 1 = k by omega]; exact C
      · refine Or.inl ⟨?_, fun i p q => by omega⟩
        rcases C with ⟨z, _⟩ | ⟨_, i, p, q, _⟩ | ⟨_, i, j, p, q, r, _⟩
        · exact z
        · omega
        · omega
    · have c1 := o_nle c
      refine hs_at hO (hs_gd (fun _ => ?_))
      have ix : x7.toNatClampNeg = k := by have := ti_tn x7; omega
      rw [ix]
      have Gk := G.2 k (by omega) (by omega)
      have ek : (q_R δ b k).toInt = (((mR δ b k).toNat : Nat) : Int) := by show mR δ b k = _; omega
      have s1 := sr_i ek h5 (by omega)
      have s2 := sr_i h1 h5 (by omega)
      have t7 := te_addc (c := 1) (n := 1) rfl x7 (by omega) (by omega)
      refine hs_ite (fun c2 => ?_) (fun c2 => ?_)
      · have c3 := o_eq c2
        refine hs_biv (fun u eu => hs_biv (fun v ev => ?_))
        have t6 := te_addc (c := 1) (n := 1) rfl x6 (by omega) (by omega)
        rw [← eu] at t6
        rw [← ev] at t7
        refine ih (k + 1) x5 u v h5 (by omega) (by omega) (Or.inl (by omega)) (by omega) (by omega) ?_
        rw [t6.1]
        exact CN_y C ka (by show (mR δ b k).toNat / 2 ^ l = y / 2 ^ l; omega)
      · have c3 := o_ne c2
        refine hs_biv (fun u eu => hs_biv (fun v ev => ?_))
        have eu' : u = x6 := by rw [eu, Int32.add_zero]
        rw [← ev] at t7
        rw [eu']
        exact ih (k + 1) x5 x6 v h5 (by omega) (by omega) (Or.inl (by omega)) y0 (by omega) (CN_n C (by show ¬ (mR δ b k).toNat / 2 ^ l = y / 2 ^ l; omega))
theorem r_many (hO : q_O g 12 35 a0 = some b) {a e y w : Nat} {x1 x2 x3 x4 : Int32} {δ : dp} (h1 : x1.toInt = (y : Int)) (h2 : x2.toInt = (w : Int)) (h3 : x3.toInt = (a : Int)) (h4 : x4.toInt = (e : Int)) (w2 : 2 ≤ w) (w16 : w ≤ 16) (ae : a < e) (e14 : e ≤ 14000) (G : RG (mR δ b) a e w) : hs (D_X12_roomMany N g a0 x1 x2 x3 x4 δ) (fun r => r.2 = δ ∧ CN (fun i => (mR δ b i).toNat / 2 ^ lwf (q_I δ 12 12 a0) w = y / 2 ^ lwf (q_I δ 12 12 a0) w) (a + 1) (e - 1) r.1.toInt) := by
  have lb := lwf_b (m := q_I δ 12 12 a0) w2
  have t3 := te_addc (c := 1) (n := 1) rfl x3 (by omega) (by omega)
  unfold D_X12_roomMany
  refine hs_bind (r_lower h2 w16) (fun r1 hr1 => ?_)
  obtain ⟨e1, v1⟩ := hr1
  rw [e1]
  refine hs_biv (fun z ez => ?_)
  rw [← ez] at t3
  exact r_manyL hO h1 h4 (by omega) ae e14 G N (a + 1) r1.1 0 z v1 (by omega) (Nat.le_refl _) (Or.inr rfl) (by decide) (by show (0 : Int) ≤ _; omega) (Or.inl ⟨rfl, fun i p q => by omega⟩)
theorem r_insideL (hO : q_O g 12 35 a0 = some b) {a e y : Nat} {x1 x2 x3 : Int32} {δ : dp} (h1 : x1.toInt = (y : Int)) (h3 : x3.toInt = (e : Int)) (ae : a < e) (e14 : e ≤ 14000) : ∀ (m k : Nat) (x4 : Int32), x4.toInt = (k : Int) → a + 1 ≤ k → (∀ i, a + 1 ≤ i → i < k → mR δ b i ≠ (y : Int)) → hs (L_X12_isInside_5 N g a0 x1 x2 x3 m x4 δ) (fun r => r.2 = δ ∧ ((r.1 = 1 ∧ DS (mR δ b) (a + 1) (e - 1) y) ∨ (r.1 = 0 ∧ ¬ DS (mR δ b) (a + 1) (e - 1) y))) := by
  have te := te_subc (c := 1) (n := 1) rfl x3 (by omega) (by omega)
  intro m
  induction m with
  | zero => intro k x4 _ _ _; exact hs_none
  | succ m ih =>
    intro k x4 h4 ka no
    unfold L_X12_isInside_5
    refine hs_ite (fun c => ?_) (fun c => ?_)
    · have c1 := o_le c
      exact hs_gp (fun _ => hs_some ⟨rfl, Or.inr ⟨rfl, fun ⟨i, p, q, r⟩ => no i p (by omega) r⟩⟩)
    · have c1 := o_nle c
      refine hs_at hO (hs_gd (fun _ => ?_))
      have ix : x4.toNatClampNeg = k := by have := ti_tn x4; omega
      rw [ix]
      have vk : (q_R δ b k).toInt = mR δ b k := rfl
      refine hs_ite (fun c2 => hs_gp (fun _ => hs_some ⟨rfl, Or.inl ⟨rfl, k, ka, by omega, by have := o_eq c2; omega⟩⟩)) (fun c2 => ?_)
      have c3 := o_ne c2
      have t4 := te_addc (c := 1) (n := 1) rfl x4 (by omega) (by omega)
      refine hs_biv (fun z ez => ?_)
      rw [← ez] at t4
      refine ih (k + 1) z (by omega) (by omega) (fun i p q => ?_)
      by_cases w : i = k
      · rw [w]; omega
      · exact no i p (by omega)
theorem r_inside (hO : q_O g 12 35 a0 = some b) {a e y : Nat} {x1 x2 x3 : Int32} {δ : dp} (h1 : x1.toInt = (y : Int)) (h2 : x2.toInt = (a : Int)) (h3 : x3.toInt = (e : Int)) (ae : a < e) (e14 : e ≤ 14000) : hs (D_X12_isInside N g a0 x1 x2 x3 δ) (fun r => r.2 = δ ∧ ((r.1 = 1 ∧ DS (mR δ b) (a + 1) (e - 1) y) ∨ (r.1 = 0 ∧ ¬ DS (mR δ b) (a + 1) (e - 1) y))) := by
  have t2 := te_addc (c := 1) (n := 1) rfl x2 (by omega) (by omega)
  unfold D_X12_isInside
  refine hs_biv (fun z ez => ?_)
  rw [← ez] at t2
  exact r_insideL hO h1 h3 ae e14 N (a + 1) z (by omega) (Nat.le_refl _) (fun i p q => by omega)
/-- the first or last such so far -/
def EN (P : Nat → Prop) (f : Nat → Int) (ls : Int32) (lo k : Nat) (v : Int) : Prop := (v = -1 ∧ ∀ i, lo ≤ i → i < k → ¬ P i) ∨ ∃ i, lo ≤ i ∧ i < k ∧ P i ∧ v = f i ∧ (ls ≠ 0 → ∀ j, lo ≤ j → j < i → ¬ P j) ∧ (ls = 0 → ∀ j, i < j → j < k → ¬ P j)
theorem r_endL (hO : q_O g 12 35 a0 = some b) {a e l y w : Nat} {x1 x2 x3 x4 x5 : Int32} {δ : dp} (h1 : x1.toInt = (y : Int)) (h4 : x4.toInt = (e : Int)) (l16 : l ≤ 16) (ae : a < e) (e14 : e ≤ 14000) (G : RG (mR δ b) a e w) : ∀ (m k : Nat) (x6 x7 x8 : Int32), x6.toInt = (l : Int) → x8.toInt = (k : Int) → a + 1 ≤ k → (k ≤ e - 1 ∨ k = a + 1) → EN (fun i => (mR δ b i).toNat / 2 ^ l = y / 2 ^ l) (fun i => (((mR δ b i).toNat % 2 ^ l : Nat) : Int)) x5 (a + 1) k x7.toInt → hs (L_X12_roomEnd_15 N g a0 x1 x2 x3 x4 x5 m x6 x7 x8 δ) (fun r => r.2 = δ ∧ EN (fun i => (mR δ b i).toNat / 2 ^ l = y / 2 ^ l) (fun i => (((mR δ b i).toNat % 2 ^ l : Nat) : Int)) x5 (a + 1) (e - 1) r.1.toInt) := by
  have zm : (-1 : Int32).toInt = -1 := by decide
  have te := te_subc (c := 1) (n := 1) rfl x4 (by omega) (by omega)
  intro m
  induction m with
  | zero => intro k x6 x7 x8 _ _ _ _ _; exact hs_none
  | succ m ih =>
    intro k x6 x7 x8 h6 h8 ka kk C
    unfold L_X12_roomEnd_15 J_X12_roomEnd_55 J_X12_roomEnd_71
    refine hs_ite (fun c => ?_) (fun c => ?_)
    · have c1 := o_le c
      refine hs_some ⟨rfl, ?_⟩
      rcases kk with kk | kk
      · rw [show e - 1 = k by omega]; exact C
      · refine Or.inl ⟨?_, fun i p q => by omega⟩
        rcases C with ⟨z, _⟩ | ⟨i, p, q, _⟩
        · exact z
        · omega
    · have c1 := o_nle c
      have Gk := G.2 k (by omega) (by omega)
      have ek : (q_R δ b k).toInt = (((mR δ b k).toNat : Nat) : Int) := by show mR δ b k = _; omega
      have s1 := sr_i ek h6 (by omega)
      have s2 := sr_i h1 h6 (by omega)
      have s3 := ms_i ek h6 l16
      have t8 := te_addc (c := 1) (n := 1) rfl x8 (by omega) (by omega)
      have ix : x8.toNatClampNeg = k := by have := ti_tn x8; omega
      -- taken
      have take : (mR δ b k).toNat / 2 ^ l = y / 2 ^ l → (x7.toInt = -1 ∨ x5 = 0) → hs ((q_O g 12 35 a0).bind fun b_9 => if x8 < 0 ∨ q_N g b_9 ≤ x8.toNatClampNeg then none else bi ((q_R δ b_9 x8.toNatClampNeg) &&& (((1 : Int32) <<< (x6 &&& 31)) - (1 : Int32))) fun x_11 => bi (x8 + 1) fun x_13 => L_X12_roomEnd_15 N g a0 x1 x2 x3 x4 x5 m x6 x_11 x_13 δ) (fun r => r.2 = δ ∧ EN (fun i => (mR δ b i).toNat / 2 ^ l = y / 2 ^ l) (fun i => (((mR δ b i).toNat % 2 ^ l : Nat) : Int)) x5 (a + 1) (e - 1) r.1.toInt) := fun pk why => by
        refine hs_at hO (hs_gd (fun _ => hs_biv (fun u eu => hs_biv (fun v ev => ?_))))
        rw [ix] at eu
        rw [← eu] at s3
        rw [← ev] at t8
        refine ih (k + 1) x6 u v h6 (by omega) (by omega) (Or.inl (by omega)) (Or.inr ⟨k, ka, by omega, pk, s3, fun ls j p q => ?_, fun _ j p q => by omega⟩)
        rcases C with ⟨_, z⟩ | ⟨i, i1, i2, i3, i4, _⟩
        · exact z j p q
        · rcases why with why | why
          · have h7 : x7.toInt = (((mR δ b i).toNat % 2 ^ l : Nat) : Int) := i4
            have n7 := Int.natCast_nonneg ((mR δ b i).toNat % 2 ^ l)
            rw [← h7] at n7
            exfalso; omega
          · exact absurd why ls
      -- left
      have left : ((mR δ b k).toNat / 2 ^ l = y / 2 ^ l → x7.toInt ≠ -1 ∧ x5 ≠ 0) → hs (bi (x8 + 1) fun x_13 => L_X12_roomEnd_15 N g a0 x1 x2 x3 x4 x5 m x6 x7 x_13 δ) (fun r => r.2 = δ ∧ EN (fun i => (mR δ b i).toNat / 2 ^ l = y / 2 ^ l) (fun i => (((mR δ b i).toNat % 2 ^ l : Nat) : Int)) x5 (a + 1) (e - 1) r.1.toInt) := fun why => by
        refine hs_biv (fun v ev => ?_)
        rw [← ev] at t8
        refine ih (k + 1) x6 x7 v h6 (by omega) (by omega) (Or.inl (by omega)) ?_
        rcases C with ⟨z1, z⟩ | ⟨i, i1, i2, i3, i4, i5, i6⟩
        · refine Or.inl ⟨z1, fun i p q r => ?_⟩
          by_cases w : i = k
          · rw [w] at r; exact (why r).1 z1
          · exact z i p (by omega) r
        · refine Or.inr ⟨i, i1, by omega, i3, i4, i5, fun l0 j p q r => ?_⟩
          by_cases w : j = k
          · rw [w] at r; exact (why r).2 l0
          · exact i6 l0 j p (by omega) r
      refine hs_at hO (hs_gd (fun _ => ?_))
      rw [ix]
      refine hs_ite (fun c2 => ?_) (fun c2 => left (fun z => by have := o_ne c2; omega))
      have c3 := o_eq c2
      rw [ix] at take
      refine hs_ite (fun c4 => take (by omega) (Or.inl (by have := o_eq c4; omega))) (fun c4 => hs_ite (fun c5 => take (by omega) (Or.inr c5)) (fun c5 => left (fun _ => ⟨by have := o_ne c4; omega, c5⟩)))
theorem r_end (hO : q_O g 12 35 a0 = some b) {a e y w : Nat} {x1 x2 x3 x4 x5 : Int32} {δ : dp} (h1 : x1.toInt = (y : Int)) (h2 : x2.toInt = (w : Int)) (h3 : x3.toInt = (a : Int)) (h4 : x4.toInt = (e : Int)) (w2 : 2 ≤ w) (w16 : w ≤ 16) (ae : a < e) (e14 : e ≤ 14000) (G : RG (mR δ b) a e w) (ne : ¬ Emp (Roo (DS (mR δ b) (a + 1) (e - 1)) (2 ^ lwf (q_I δ 12 12 a0) w) (y / 2 ^ lwf (q_I δ 12 12 a0) w))) : hs (D_X12_roomEnd N g a0 x1 x2 x3 x4 x5 δ) (fun r => r.2 = δ ∧ ∃ v : Nat, r.1.toInt = (v : Int) ∧ (x5 ≠ 0 → Lst (Roo (DS (mR δ b) (a + 1) (e - 1)) (2 ^ lwf (q_I δ 12 12 a0) w) (y / 2 ^ lwf (q_I δ 12 12 a0) w)) v) ∧ (x5 = 0 → Gst (Roo (DS (mR δ b) (a + 1) (e - 1)) (2 ^ lwf (q_I δ 12 12 a0) w) (y / 2 ^ lwf (q_I δ 12 12 a0) w)) v)) := by
  have zm : (-1 : Int32).toInt = -1 := by decide
  have lb := lwf_b (m := q_I δ 12 12 a0) w2
  have t3 := te_addc (c := 1) (n := 1) rfl x3 (by omega) (by omega)
  unfold D_X12_roomEnd
  refine hs_bind (r_lower h2 w16) (fun r1 hr1 => ?_)
  obtain ⟨e1, v1⟩ := hr1
  rw [e1]
  refine hs_biv (fun z ez => ?_)
  rw [← ez] at t3
  refine hs_mono (r_endL hO h1 h4 (by omega) ae e14 G N (a + 1) r1.1 (-1) z v1 (by omega) (Nat.le_refl _) (Or.inr rfl) (Or.inl ⟨zm, fun i p q => by omega⟩)) (fun r hr => ?_)
  obtain ⟨e2, h⟩ := hr
  refine ⟨e2, ?_⟩
  generalize lwf (q_I δ 12 12 a0) w = l at *
  rcases h with ⟨_, z⟩ | ⟨i, i1, i2, i3, i4, i5, i6⟩
  · exfalso
    refine ne (fun v ⟨y', ⟨k, p, q, r⟩, s, _⟩ => z k p q ?_)
    show (mR δ b k).toNat / 2 ^ l = y / 2 ^ l
    rw [r]; exact s
  · have gi := G.2 i (by omega) (by omega)
    have me : Roo (DS (mR δ b) (a + 1) (e - 1)) (2 ^ l) (y / 2 ^ l) ((mR δ b i).toNat % 2 ^ l) := ⟨(mR δ b i).toNat, ⟨i, i1, i2, by omega⟩, i3, rfl⟩
    refine ⟨(mR δ b i).toNat % 2 ^ l, i4, fun ls => ⟨me, fun v ⟨y', ⟨k, p, q, r⟩, s, t⟩ => ?_⟩, fun ls => ⟨me, fun v ⟨y', ⟨k, p, q, r⟩, s, t⟩ => ?_⟩⟩
    · have pk : (mR δ b k).toNat / 2 ^ l = y / 2 ^ l := by rw [r]; exact s
      have ik : i ≤ k := Nat.not_lt.mp (fun lt => i5 ls k p lt pk)
      have mm := G.m (i := i) (j := k) (by omega) ik (by omega)
      have := dm_le (q := 2 ^ l) (show (mR δ b i).toNat ≤ y' by omega) (i3.trans s.symm)
      omega
    · have pk : (mR δ b k).toNat / 2 ^ l = y / 2 ^ l := by rw [r]; exact s
      have ik : k ≤ i := Nat.not_lt.mp (fun lt => i6 ls k lt q pk)
      have mm := G.m (i := k) (j := i) (by omega) ik (by omega)
      have := dm_le (q := 2 ^ l) (show y' ≤ (mR δ b i).toNat by omega) (s.trans (show y / 2 ^ l = (mR δ b i).toNat / 2 ^ l from i3.symm))
      omega
theorem CN_e {R : Nat → Int} {lo hi l y w a e : Nat} {c : Int} (G : RG R a e w) (h1 : a ≤ lo) (h2 : hi ≤ e) (h : CN (fun i => (R i).toNat / 2 ^ l = y / 2 ^ l) lo hi c) : (c = 0 ↔ Emp (Roo (DS R lo hi) (2 ^ l) (y / 2 ^ l))) ∧ 0 ≤ c := by
  have no : ∀ i, lo ≤ i → i < hi → (R i).toNat / 2 ^ l = y / 2 ^ l → ¬ Emp (Roo (DS R lo hi) (2 ^ l) (y / 2 ^ l)) := fun i p q r z => z _ ⟨(R i).toNat, ⟨i, p, q, by have := (G.2 i (by omega) (by omega)).1; omega⟩, r, rfl⟩
  rcases h with ⟨c0, z⟩ | ⟨c0, i, p, q, r, _⟩ | ⟨c0, i, j, p, q, r, s, _⟩
  · refine ⟨⟨fun _ v ⟨y', ⟨k, p, q, r⟩, s, _⟩ => z k p q (by show (R k).toNat / 2 ^ l = _; rw [r]; exact s), fun _ => c0⟩, by omega⟩
  · exact ⟨⟨fun w => by omega, fun w => absurd w (no i p q r)⟩, by omega⟩
  · exact ⟨⟨fun w => by omega, fun w => absurd w (no i p (by omega) s)⟩, by omega⟩
theorem CN_1 {R : Nat → Int} {lo hi l y w a e : Nat} {c : Int} (G : RG R a e w) (h1 : a ≤ lo) (h2 : hi ≤ e) (h : CN (fun i => (R i).toNat / 2 ^ l = y / 2 ^ l) lo hi c) : (c = 1 ∧ DS R lo hi y) ↔ (DS R lo hi y ∧ ∀ z, DS R lo hi z → z / 2 ^ l = y / 2 ^ l → z = y) := by
  constructor
  · rintro ⟨c1, k, p, q, r⟩
    refine ⟨⟨k, p, q, r⟩, fun z ⟨j, p', q', r'⟩ s => ?_⟩
    rcases h with ⟨c0, _⟩ | ⟨c0, i, _, _, _, u⟩ | ⟨c0, _⟩
    · omega
    · have e1 := u k p q (by show (R k).toNat / 2 ^ l = _; rw [r]; rfl)
      have e2 := u j p' q' (by show (R j).toNat / 2 ^ l = _; rw [r']; exact s)
      rw [e1] at r
      rw [e2] at r'
      omega
    · omega
  · rintro ⟨⟨k, p, q, r⟩, u⟩
    refine ⟨?_, k, p, q, r⟩
    rcases h with ⟨c0, z⟩ | ⟨c0, _⟩ | ⟨c0, i, j, i1, i2, i3, i4, i5⟩
    · exact absurd (show (R k).toNat / 2 ^ l = y / 2 ^ l by rw [r]; rfl) (z k p q)
    · exact c0
    · have gi := (G.2 i (by omega) (by omega)).1
      have gj := (G.2 j (by omega) (by omega)).1
      have e1 := u (R i).toNat ⟨i, i1, by omega, by omega⟩ i4
      have e2 := u (R j).toNat ⟨j, by omega, i3, by omega⟩ i5
      have := G.1 i j (by omega) i2 (by omega)
      omega
end
end
section
/-! the reference's TOUCHES, level by level -/
/-- an implication that omega does not see -/
def Imp (p q : Prop) : Prop := p → q
def TS (a0 b E : Nat) (lw : Nat → Nat) (δ : dp) (w a e : Nat) (x3 x4 x5 : Int32) : Prop := x3.toInt = (w : Int) ∧ x4.toInt = (a : Int) ∧ x5.toInt = (e : Int) ∧ (q_I δ 12 36 a0).toInt = (e : Int) ∧ (q_I δ 12 11 a0).toInt = (E : Int) ∧ lwf (q_I δ 12 12 a0) = lw ∧ a ≤ e ∧ e ≤ 14000 ∧ RG (mR δ b) a e w ∧ w ≤ 16
def TP (a0 b e : Nat) (δ : dp) (v : Int) (r : Int32 × dp) : Prop := r.1.toInt = v ∧ kp [(12, 36)] δ r.2 ∧ (q_I r.2 12 36 a0).toInt = (e : Int) ∧ RFm b e δ r.2
def TOk (a0 b E : Nat) (lw : Nat → Nat) (T : Nat → Int32 → Int32 → Int32 → Int32 → Int32 → dp → Option (Int32 × dp)) (n : Nat) : Prop := ∀ (x1 x2 x3 x4 x5 : Int32) (δ : dp) (w a e : Nat), TS a0 b E lw δ w a e x3 x4 x5 → 1 ≤ w → w ≤ n → 0 ≤ x1.toInt → x1.toInt ≤ 4 → hs (T a0 x1 x2 x3 x4 x5 δ) (TP a0 b e δ (Tou E lw n x1.toInt x2.toInt w (DS (mR δ b) a e)))
theorem TP.c {a0 b e : Nat} {δ : dp} {v v' : Int} {r : Int32 × dp} (h : TP a0 b e δ v r) (q : v = v') : TP a0 b e δ v' r := by rw [← q]; exact h
theorem TP_s {a0 b e : Nat} {δ : dp} {v : Int} {k : Int32} (hT : (q_I δ 12 36 a0).toInt = (e : Int)) (hk : k.toInt = v) : hs (some (k, δ)) (TP a0 b e δ v) := hs_some ⟨hk, kp_w (by decide) kp_r, hT, RFm.r⟩
theorem TS_k {a0 b E : Nat} {lw : Nat → Nat} {δ d : dp} {w a e : Nat} {x3 x4 x5 : Int32} (S : TS a0 b E lw δ w a e x3 x4 x5) (k : kp [(12, 36)] δ d) (hT : (q_I d 12 36 a0).toInt = (e : Int)) (F : RFm b e δ d) : TS a0 b E lw d w a e x3 x4 x5 := by
  obtain ⟨s1, s2, s3, s4, s5, s6, s7, s8, s9, s10⟩ := S
  exact ⟨s1, s2, s3, hT, by rw [k 12 11 a0 (by decide)]; exact s5, by rw [k 12 12 a0 (by decide)]; exact s6, s7, s8, RG_c (fun i _ q => F.2 i q) s9, s10⟩
section
variable {N : Nat} {g : gp} {a0 b E : Nat} {lw : Nat → Nat} {T : Nat → Int32 → Int32 → Int32 → Int32 → Int32 → dp → Option (Int32 × dp)} {n : Nat}
theorem r_inList (hO : q_O g 12 35 a0 = some b) (hN : q_N g b = 14000) (TO : TOk a0 b E lw T n) {x1 x2 x3 x4 x5 : Int32} {δ : dp} {w a e y : Nat} (S : TS a0 b E lw δ w a e x3 x4 x5) (w2 : 2 ≤ w) (wn : w ≤ n + 1) (ae : a < e) (c0 : 0 ≤ x1.toInt) (c4 : x1.toInt ≤ 4) (hy : x2.toInt = (y : Int)) : hs (B_X12_inList N g T a0 x1 x2 x3 x4 x5 δ) (TP a0 b e δ (tL E lw n x1.toInt w (DS (mR δ b) (a + 1) (e - 1)) y)) := by
  obtain ⟨s1, s2, s3, s4, s5, s6, s7, s8, s9, s10⟩ := S
  have lb := lwf_b (m := q_I δ 12 12 a0) w2
  rw [s6] at lb
  unfold B_X12_inList
  refine hs_bind (r_lower s1 s10) (fun r1 hr1 => ?_)
  obtain ⟨e1, v1⟩ := hr1
  rw [e1]
  rw [s6] at v1
  refine hs_bind (r_lists hO hN s2 s3 v1 s4 (by omega) s10 ae s8 s9) (fun r2 hr2 => ?_)
  obtain ⟨g1, g2, g3, T', g4, g5, g6, g7, g8⟩ := hr2
  have ts := te_sub x3 r1.1 (by omega) (by omega)
  refine hs_bind (TO x1 (x2 >>> (r1.1 &&& 31)) (x3 - r1.1) r2.1 (q_I r2.2 12 36 a0) r2.2 (w - lw w) e T' ⟨by omega, g1, g4, g4, by rw [g2 12 11 a0 (by decide)]; exact s5, by rw [g2 12 12 a0 (by decide)]; exact s6, g5, g6, g7, by omega⟩ (by omega) (by omega) c0 c4) (fun r3 hr3 => ?_)
  obtain ⟨h1, h2, h3, h4⟩ := hr3
  refine hs_bdv (fun d4 e4 => hs_some ⟨?_, kp_w (by decide) (kp_I (kp_t g2 h2) e4), by rw [e4, rI_s]; exact g1, ?_⟩)
  · show r3.1.toInt = _
    rw [h1, sr_i hy v1 (by omega), g8]
    rfl
  · have F := g3.t h4 g5
    exact ⟨fun b' nb => by rw [e4]; exact F.1 b' nb, fun i hi => by rw [e4]; exact F.2 i hi⟩
theorem r_inRoom (hO : q_O g 12 35 a0 = some b) (hN : q_N g b = 14000) (TO : TOk a0 b E lw T n) {x1 x2 x3 x4 x5 : Int32} {δ : dp} {w a e y : Nat} (S : TS a0 b E lw δ w a e x3 x4 x5) (w2 : 2 ≤ w) (wn : w ≤ n + 1) (ae : a < e) (c0 : 0 ≤ x1.toInt) (c4 : x1.toInt ≤ 4) (hy : x2.toInt = (y : Int)) : hs (B_X12_inRoom N g T a0 x1 x2 x3 x4 x5 δ) (TP a0 b e δ (tR E lw n x1.toInt w (DS (mR δ b) (a + 1) (e - 1)) y)) := by
  obtain ⟨s1, s2, s3, s4, s5, s6, s7, s8, s9, s10⟩ := S
  have lb := lwf_b (m := q_I δ 12 12 a0) w2
  rw [s6] at lb
  unfold B_X12_inRoom
  refine hs_bind (r_lower s1 s10) (fun r1 hr1 => ?_)
  obtain ⟨e1, v1⟩ := hr1
  rw [e1]
  rw [s6] at v1
  refine hs_bind (r_rooms hO hN (u := y / 2 ^ lw w) s2 s3 v1 (sr_i hy v1 (by omega)) s4 (by omega) ae s8 s9) (fun r2 hr2 => ?_)
  obtain ⟨g1, g2, g3, T', g4, g5, g6, g7, g8⟩ := hr2
  refine hs_bind (TO x1 (x2 &&& (((1 : Int32) <<< (r1.1 &&& 31)) - (1 : Int32))) r1.1 r2.1 (q_I r2.2 12 36 a0) r2.2 (lw w) e T' ⟨v1, g1, g4, g4, by rw [g2 12 11 a0 (by decide)]; exact s5, by rw [g2 12 12 a0 (by decide)]; exact s6, g5, g6, g7, by omega⟩ (by omega) (by omega) c0 c4) (fun r3 hr3 => ?_)
  obtain ⟨h1, h2, h3, h4⟩ := hr3
  refine hs_bdv (fun d4 e4 => hs_some ⟨?_, kp_w (by decide) (kp_I (kp_t g2 h2) e4), by rw [e4, rI_s]; exact g1, ?_⟩)
  · show r3.1.toInt = _
    rw [h1, ms_i hy v1 (by omega), g8]
    rfl
  · have F := g3.t h4 g5
    exact ⟨fun b' nb => by rw [e4]; exact F.1 b' nb, fun i hi => by rw [e4]; exact F.2 i hi⟩
theorem r_put64 (hO : q_O g 12 35 a0 = some b) (hN : q_N g b = 14000) (TO : TOk a0 b E lw T n) (n20 : n ≤ 20) {x1 xs x2 x3 x4 : Int32} {δ : dp} {w a e y : Nat} (S : TS a0 b E lw δ w a e x2 x3 x4) (w2 : 2 ≤ w) (wn : w ≤ n + 1) (ae : a < e) (hy : xs.toInt = (y : Int)) {V : Int} (hV : V = ic (Emp (Roo (DS (mR δ b) (a + 1) (e - 1)) (2 ^ lw w) (y / 2 ^ lw w))) (2 + tL E lw n 0 w (DS (mR δ b) (a + 1) (e - 1)) y) (1 + tR E lw n 0 w (DS (mR δ b) (a + 1) (e - 1)) y)) : hs (J_X12_touchPut_64 N g T a0 x1 x2 x3 x4 xs δ) (TP a0 b e δ V) := by
  have z0 : (0 : Int32).toInt = 0 := rfl
  have z1 : (1 : Int32).toInt = 1 := rfl
  have z2 : (2 : Int32).toInt = 2 := rfl
  obtain ⟨s1, s2, s3, s4, s5, s6, s7, s8, s9, s10⟩ := id S
  unfold J_X12_touchPut_64 J_X12_touchPut_108
  refine hs_bind (r_many hO hy s1 s2 s3 w2 s10 ae s8 s9) (fun r hr => ?_)
  obtain ⟨er, C⟩ := hr
  rw [er]
  rw [s6] at C
  have em := CN_e s9 (by omega) (by omega) C
  refine hs_ite (fun c => ?_) (fun c => ?_)
  · have c1 := o_eq c
    rw [ic_t (em.1.mp (by omega))] at hV
    refine hs_bind (r_inList hO hN TO (x1 := 0) S w2 wn ae (by decide) (by decide) hy) (fun q hq => ?_)
    obtain ⟨h1, h2, h3, h4⟩ := hq
    have tb := Tou_b (E := E) (lw := lw) n 0 ((y / 2 ^ lw w : Nat) : Int) (w - lw w) (Lis (DS (mR δ b) (a + 1) (e - 1)) (2 ^ lw w))
    have h1' : q.1.toInt = tL E lw n 0 w (DS (mR δ b) (a + 1) (e - 1)) y := h1
    have tb' : 0 ≤ tL E lw n 0 w (DS (mR δ b) (a + 1) (e - 1)) y ∧ tL E lw n 0 w (DS (mR δ b) (a + 1) (e - 1)) y ≤ 4 * (n : Int) := tb
    have t := te_cadd (c := 2) (n := 2) rfl q.1 (by omega) (by omega)
    exact hs_some ⟨by show (2 + q.1).toInt = V; omega, h2, h3, h4⟩
  · have c1 := o_ne c
    rw [ic_f (fun z => by have := em.1.mpr z; omega)] at hV
    refine hs_bind (r_inRoom hO hN TO (x1 := 0) S w2 wn ae (by decide) (by decide) hy) (fun q hq => ?_)
    obtain ⟨h1, h2, h3, h4⟩ := hq
    have tb := Tou_b (E := E) (lw := lw) n 0 ((y % 2 ^ lw w : Nat) : Int) (lw w) (Roo (DS (mR δ b) (a + 1) (e - 1)) (2 ^ lw w) (y / 2 ^ lw w))
    have h1' : q.1.toInt = tR E lw n 0 w (DS (mR δ b) (a + 1) (e - 1)) y := h1
    have tb' : 0 ≤ tR E lw n 0 w (DS (mR δ b) (a + 1) (e - 1)) y ∧ tR E lw n 0 w (DS (mR δ b) (a + 1) (e - 1)) y ≤ 4 * (n : Int) := tb
    have t := te_cadd (c := 1) (n := 1) rfl q.1 (by omega) (by omega)
    exact hs_some ⟨by show (1 + q.1).toInt = V; omega, h2, h3, h4⟩
theorem tR_b {c : Int} {w : Nat} {I : Nat → Prop} {y : Nat} : 0 ≤ tR E lw n c w I y ∧ tR E lw n c w I y ≤ 4 * (n : Int) := Tou_b n c _ _ _
theorem tL_b {c : Int} {w : Nat} {I : Nat → Prop} {y : Nat} : 0 ≤ tL E lw n c w I y ∧ tL E lw n c w I y ≤ 4 * (n : Int) := Tou_b n c _ _ _
/-- the ends of what lies there -/
theorem r_ends {R : Nat → Int} {a e w : Nat} (G : RG R a e w) (ae : a < e) : R a = (((R a).toNat : Nat) : Int) ∧ R (e - 1) = (((R (e - 1)).toNat : Nat) : Int) ∧ ((R a).toNat = (R (e - 1)).toNat ↔ e = a + 1) ∧ (R a).toNat ≤ (R (e - 1)).toNat := by
  have g1 := G.2 a (Nat.le_refl _) ae
  have g2 := G.2 (e - 1) (by omega) (by omega)
  have mm := G.m (Nat.le_refl a) (by omega : a ≤ e - 1) (by omega)
  have iff : (R a).toNat = (R (e - 1)).toNat ↔ e = a + 1 := by
    constructor
    · intro z
      have : ¬ a < e - 1 := fun h => by have := G.1 a (e - 1) (Nat.le_refl _) h (by omega); omega
      omega
    · intro z
      rw [z]; rfl
  exact ⟨by omega, by omega, iff, by omega⟩
theorem r_put (hO : q_O g 12 35 a0 = some b) (hN : q_N g b = 14000) (TO : TOk a0 b E lw T n) (n20 : n ≤ 20) {x1 x2 x3 x4 : Int32} {δ : dp} {w a e : Nat} (S : TS a0 b E lw δ w a e x2 x3 x4) (w2 : 2 ≤ w) (wn : w ≤ n + 1) (ae : a < e) {V : Int} (hV1 : (mR δ b a).toNat = (mR δ b (e - 1)).toNat → V = 1) (hV : (mR δ b a).toNat ≠ (mR δ b (e - 1)).toNat → V = TBp x1.toInt (DS (mR δ b) (a + 1) (e - 1)) (mR δ b a).toNat (mR δ b (e - 1)).toNat (2 ^ lw w) (tR E lw n 0 w (DS (mR δ b) (a + 1) (e - 1))) (tL E lw n 0 w (DS (mR δ b) (a + 1) (e - 1)))) : hs (B_X12_touchPut N g T a0 x1 x2 x3 x4 δ) (TP a0 b e δ V) := by
  have z1 : (1 : Int32).toInt = 1 := rfl
  obtain ⟨s1, s2, s3, s4, s5, s6, s7, s8, s9, s10⟩ := id S
  obtain ⟨la, ga, eq1, lga⟩ := r_ends s9 ae
  unfold B_X12_touchPut J_X12_touchPut_39
  refine hs_at hO (hs_gd (fun _ => hs_biv (fun u eu => hs_at hO (hs_gd (fun _ => hs_biv (fun v ev => ?_))))))
  have ia : x3.toNatClampNeg = a := by have := ti_tn x3; omega
  have t4 := te_subc (c := 1) (n := 1) rfl x4 (by omega) (by omega)
  have ie : (x4 - 1).toNatClampNeg = e - 1 := by have := ti_tn (x4 - 1); omega
  rw [ia] at eu
  rw [ie] at ev
  clear t4 ie
  have hu : u.toInt = mR δ b a := by rw [eu]; rfl
  have hv : v.toInt = mR δ b (e - 1) := by rw [ev]; rfl
  clear eu ev
  have t5 := te_sub x4 x3 (by omega) (by omega)
  generalize (mR δ b a).toNat = va at *
  generalize (mR δ b (e - 1)).toNat = vb at *
  have one : (x1.toInt = (va : Int) ∨ x1.toInt = (vb : Int)) → hs (some ((1 : Int32), δ)) (TP a0 b e δ V) := fun z => by
    refine TP_s s4 ?_
    by_cases q : va = vb
    · rw [hV1 q]; rfl
    · rw [hV q]
      unfold TBp
      rw [ic_t z]; rfl
  refine hs_ite (fun c => one (Or.inl (by have := o_eq c; omega))) (fun c => hs_ite (fun c2 => one (Or.inr (by have := o_eq c2; omega))) (fun c2 => hs_ite (fun c3 => TP_s s4 (by rw [hV1 (eq1.mpr (by have := o_eq c3; omega))]; rfl)) (fun c3 => ?_)))
  have c1 := o_ne c
  have c4 := o_ne c2
  have c5 := o_ne c3
  have ne : va ≠ vb := fun q => by have := eq1.mp q; omega
  have hV' := hV ne
  unfold TBp at hV'
  rw [ic_f (fun z => by omega)] at hV'
  have key : ∀ (xs : Int32), xs.toInt = ((cl x1.toInt va vb : Nat) : Int) → hs (J_X12_touchPut_64 N g T a0 x1 x2 x3 x4 xs δ) (TP a0 b e δ V) := fun xs hx => r_put64 hO hN TO n20 S w2 wn ae hx hV'
  refine hs_ite (fun c6 => hs_ite (fun c7 => key _ ?_) (fun c7 => key _ ?_)) (fun c6 => key _ ?_)
  · have := o_le c6
    have := o_le c7
    unfold cl
    rw [if_neg (by omega), if_neg (by omega)]
    omega
  · have := o_le c6
    have := o_nle c7
    unfold cl
    rw [if_neg (by omega), if_pos (by omega)]
    omega
  · have := o_nle c6
    unfold cl
    rw [if_pos (by omega)]
    omega
end
end
section
/-! drop of the reference -/
section
variable {N : Nat} {g : gp} {a0 b E : Nat} {lw : Nat → Nat} {T : Nat → Int32 → Int32 → Int32 → Int32 → Int32 → dp → Option (Int32 × dp)} {n : Nat}
theorem r_drop121 (hO : q_O g 12 35 a0 = some b) (hN : q_N g b = 14000) (TO : TOk a0 b E lw T n) (n20 : n ≤ 20) {x1 xs x8 x2 x3 x4 : Int32} {δ : dp} {w a e y : Nat} (S : TS a0 b E lw δ w a e x2 x3 x4) (w2 : 2 ≤ w) (wn : w ≤ n + 1) (ae : a < e) (hy : xs.toInt = (y : Int)) (m0 : 0 ≤ x8.toInt) (m3 : x8.toInt ≤ 3) {V : Int} (hV : V = TBe (DS (mR δ b) (a + 1) (e - 1)) (2 ^ lw w) (tR E lw n 1 w (DS (mR δ b) (a + 1) (e - 1))) (tL E lw n 1 w (DS (mR δ b) (a + 1) (e - 1))) x8.toInt y) : hs (J_X12_touchDrop_121 N g T a0 x1 x2 x3 x4 xs x8 δ) (TP a0 b e δ V) := by
  have z0 : (0 : Int32).toInt = 0 := rfl
  have z1 : (1 : Int32).toInt = 1 := rfl
  obtain ⟨s1, s2, s3, s4, s5, s6, s7, s8, s9, s10⟩ := id S
  have lb := lwf_b (m := q_I δ 12 12 a0) w2
  rw [s6] at lb
  unfold TBe at hV
  unfold J_X12_touchDrop_121 J_X12_touchDrop_165
  refine hs_bind (r_many hO hy s1 s2 s3 w2 s10 ae s8 s9) (fun r hr => ?_)
  obtain ⟨er, C⟩ := hr
  rw [er]
  rw [s6] at C
  have em := CN_e s9 (by omega) (by omega) C
  have on := CN_1 s9 (by omega) (by omega) C
  refine hs_ite (fun c => ?_) (fun c => ?_)
  · have c1 := o_eq c
    rw [ic_t (em.1.mp (by omega))] at hV
    exact TP_s s4 hV.symm
  have c1 := o_ne c
  rw [ic_f (fun z => by have := em.1.mpr z; omega)] at hV
  have rb := tR_b (E := E) (lw := lw) (n := n) (c := 1) (w := w) (I := DS (mR δ b) (a + 1) (e - 1)) (y := y)
  have lb2 := tL_b (E := E) (lw := lw) (n := n) (c := 1) (w := w) (I := DS (mR δ b) (a + 1) (e - 1)) (y := y)
  have no : ¬ (r.1.toInt = 1 ∧ DS (mR δ b) (a + 1) (e - 1) y) → hs (J_X12_touchDrop_166 N g T a0 x1 x2 x3 x4 0 x8 xs δ) (TP a0 b e δ V) := fun z => by
    rw [ic_f (fun k => z (on.mpr k))] at hV
    unfold J_X12_touchDrop_166 J_X12_touchDrop_202
    refine hs_bind (r_inRoom hO hN TO (x1 := 1) S w2 wn ae (by decide) (by decide) hy) (fun q hq => ?_)
    obtain ⟨h1, h2, h3, h4⟩ := hq
    have h1' : q.1.toInt = tR E lw n 1 w (DS (mR δ b) (a + 1) (e - 1)) y := h1
    have t := te_add x8 q.1 (by omega) (by omega)
    refine hs_ite (fun _ => hs_some ⟨?_, h2, h3, h4⟩) (fun z => absurd rfl z)
    show (x8 + q.1 + 0).toInt = V
    rw [Int32.add_zero]
    omega
  refine hs_ite (fun c2 => ?_) (fun c2 => no (fun z => by have := o_ne c2; omega))
  have c3 := o_eq c2
  refine hs_bind (r_inside hO hy s2 s3 ae s8) (fun r2 hr2 => ?_)
  obtain ⟨e2, h2⟩ := hr2
  rw [e2]
  rcases h2 with ⟨i1, i2⟩ | ⟨i1, i2⟩
  rotate_left
  · rw [i1]
    exact hs_ite (fun _ => no (fun z => i2 z.2)) (fun z => absurd rfl z)
  rw [i1]
  refine hs_ite (fun z => absurd z (by decide)) (fun _ => ?_)
  have one := on.mp ⟨by omega, i2⟩
  rw [ic_t one] at hV
  -- the room holds but one
  have r1 : tR E lw n 1 w (DS (mR δ b) (a + 1) (e - 1)) y = 1 := by
    obtain ⟨n', rfl⟩ : ∃ n', n = n' + 1 := ⟨n - 1, by omega⟩
    have al : ∀ v, Roo (DS (mR δ b) (a + 1) (e - 1)) (2 ^ lw w) (y / 2 ^ lw w) v → v = y % 2 ^ lw w := fun v ⟨z, k1, k2, k3⟩ => by rw [← k3, one.2 z k1 k2]
    have me : Roo (DS (mR δ b) (a + 1) (e - 1)) (2 ^ lw w) (y / 2 ^ lw w) (y % 2 ^ lw w) := ⟨y, i2, rfl, rfl⟩
    exact Tou_1 ⟨me, fun v hv => by rw [al v hv]; exact Nat.le_refl _⟩ ⟨me, fun v hv => by rw [al v hv]; exact Nat.le_refl _⟩ rfl
  unfold J_X12_touchDrop_166 J_X12_touchDrop_202
  refine hs_bind (r_inRoom hO hN TO (x1 := 1) S w2 wn ae (by decide) (by decide) hy) (fun q hq => ?_)
  obtain ⟨h1, h2, h3, h4⟩ := hq
  have h1' : q.1.toInt = tR E lw n 1 w (DS (mR δ b) (a + 1) (e - 1)) y := h1
  have t := te_add x8 q.1 (by omega) (by omega)
  refine hs_ite (fun z => absurd z (by decide)) (fun _ => ?_)
  have ds : DS (mR q.2 b) (a + 1) (e - 1) = DS (mR δ b) (a + 1) (e - 1) := DS_c (fun i _ p => h4.2 i (by omega))
  refine hs_bind (r_inList hO hN TO (x1 := 1) (TS_k S h2 h3 h4) w2 wn ae (by decide) (by decide) hy) (fun q2 hq2 => ?_)
  obtain ⟨k1, k2, k3, k4⟩ := hq2
  rw [ds] at k1
  have k1' : q2.1.toInt = tL E lw n 1 w (DS (mR δ b) (a + 1) (e - 1)) y := k1
  have t2 := te_add (x8 + q.1) q2.1 (by omega) (by omega)
  exact hs_some ⟨by show (x8 + q.1 + q2.1).toInt = V; omega, kp_w (by decide) (kp_t h2 k2), k3, h4.t k4 (Nat.le_refl _)⟩
theorem r_drop (hO : q_O g 12 35 a0 = some b) (hN : q_N g b = 14000) (TO : TOk a0 b E lw T n) (n20 : n ≤ 20) {x1 x2 x3 x4 : Int32} {δ : dp} {w a e : Nat} (S : TS a0 b E lw δ w a e x2 x3 x4) (w2 : 2 ≤ w) (wn : w ≤ n + 1) (ae : a < e) {V : Int} (hV1 : (mR δ b a).toNat = (mR δ b (e - 1)).toNat → V = 1) (hV : (mR δ b a).toNat ≠ (mR δ b (e - 1)).toNat → V = TBd x1.toInt (DS (mR δ b) (a + 1) (e - 1)) (mR δ b a).toNat (mR δ b (e - 1)).toNat (2 ^ lw w) (tR E lw n 1 w (DS (mR δ b) (a + 1) (e - 1))) (tL E lw n 1 w (DS (mR δ b) (a + 1) (e - 1)))) : hs (B_X12_touchDrop N g T a0 x1 x2 x3 x4 δ) (TP a0 b e δ V) := by
  have z0 : (0 : Int32).toInt = 0 := rfl
  have z1 : (1 : Int32).toInt = 1 := rfl
  have z2 : (2 : Int32).toInt = 2 := rfl
  have z3 : (3 : Int32).toInt = 3 := rfl
  obtain ⟨s1, s2, s3, s4, s5, s6, s7, s8, s9, s10⟩ := id S
  obtain ⟨la, ga, eq1, lga⟩ := r_ends s9 ae
  have GI : RG (mR δ b) (a + 1) (e - 1) w := s9.s (by omega) (by omega)
  have emI : Emp (DS (mR δ b) (a + 1) (e - 1)) ↔ e - 1 ≤ a + 1 := ⟨DS_n GI, DS_0⟩
  have t5 := te_sub x4 x3 (by omega) (by omega)
  have t1 := te_addc (c := 1) (n := 1) rfl x3 (by omega) (by omega)
  have i1 : (x3 + 1).toNatClampNeg = a + 1 := by have := ti_tn (x3 + 1); omega
  clear t1
  have t2 := te_subc (c := 2) (n := 2) rfl x4 (by omega) (by omega)
  have i2 : a + 1 < e - 1 → (x4 - 2).toNatClampNeg = e - 1 - 1 := fun z => by have := ti_tn (x4 - 2); omega
  clear t2
  have t4 := te_subc (c := 1) (n := 1) rfl x4 (by omega) (by omega)
  have ie : (x4 - 1).toNatClampNeg = e - 1 := by have := ti_tn (x4 - 1); omega
  clear t4
  unfold B_X12_touchDrop J_X12_touchDrop_31
  refine hs_at hO (hs_gd (fun _ => hs_biv (fun u eu => hs_at hO (hs_gd (fun _ => hs_biv (fun v ev => ?_))))))
  have ia : x3.toNatClampNeg = a := by have := ti_tn x3; omega
  rw [ia] at eu
  rw [ie] at ev
  have hu : u.toInt = mR δ b a := by rw [eu]; rfl
  have hv : v.toInt = mR δ b (e - 1) := by rw [ev]; rfl
  clear eu ev
  generalize (mR δ b a).toNat = va at *
  generalize (mR δ b (e - 1)).toNat = vb at *
  have one : (x1.toInt < (va : Int) ∨ (vb : Int) < x1.toInt ∨ e = a + 1 ∨ ((x1.toInt = (va : Int) ∨ x1.toInt = (vb : Int)) ∧ Emp (DS (mR δ b) (a + 1) (e - 1)))) → hs (some ((1 : Int32), δ)) (TP a0 b e δ V) := fun z => by
    refine TP_s s4 ?_
    by_cases q : va = vb
    · rw [hV1 q]; rfl
    · rw [hV q]
      unfold TBd
      rw [ic_t (by rcases z with z | z | z | z; exact Or.inl z; exact Or.inr (Or.inl z); exact absurd (eq1.mpr z) q; exact Or.inr (Or.inr z))]
      rfl
  have go : ∀ xs : Int32, (xs = 0 ∧ ¬ (x1.toInt = (va : Int) ∨ x1.toInt = (vb : Int)) ∨ xs = 1 ∧ (x1.toInt = (va : Int) ∨ x1.toInt = (vb : Int))) → hs (J_X12_touchDrop_36 N g T a0 x1 x2 x3 x4 xs u v δ) (TP a0 b e δ V) := fun xs hxs => by
    unfold J_X12_touchDrop_36 J_X12_touchDrop_71
    refine hs_ite (fun c => one (Or.inl (by have := o_lt c; omega))) (fun c => hs_ite (fun c2 => one (Or.inr (Or.inl (by have := o_lt c2; omega)))) (fun c2 => hs_ite (fun c3 => one (Or.inr (Or.inr (Or.inl (by have := o_eq c3; omega))))) (fun c3 => ?_)))
    have c1 := o_nlt c
    have c4 := o_nlt c2
    have c5 := o_ne c3
    have ne : va ≠ vb := fun q => by have := eq1.mp q; omega
    have hV' := hV ne
    unfold TBd at hV'
    rcases hxs with ⟨hx, nx⟩ | ⟨hx, ex⟩
    · rw [hx]
      refine hs_ite (fun _ => ?_) (fun z => absurd rfl z)
      unfold J_X12_touchDrop_73 J_X12_touchDrop_83
      refine hs_ite (fun _ => hs_ite (fun c6 => absurd (Or.inl (by have := o_eq c6; omega)) nx) (fun c6 => hs_ite (fun c7 => absurd (Or.inr (by have := o_eq c7; omega)) nx) (fun c7 => ?_))) (fun z => absurd rfl z)
      rw [ic_f (fun z => by rcases z with z | z | ⟨z, _⟩; omega; omega; exact nx z), ic_f nx, if_neg (fun z => nx (Or.inl z)), if_neg (fun z => nx (Or.inr z))] at hV'
      exact r_drop121 hO hN TO n20 S w2 wn ae (y := x1.toInt.toNat) (by omega) (by decide) (by decide) hV'
    · rw [hx]
      refine hs_ite (fun z => absurd z (by decide)) (fun _ => hs_ite (fun c6 => one (Or.inr (Or.inr (Or.inr ⟨ex, emI.mpr (by have := o_eq c6; omega)⟩)))) (fun c6 => ?_))
      have c7 := o_ne c6
      have ii : a + 1 < e - 1 := by omega
      rw [ic_f (fun z => by rcases z with z | z | ⟨_, z⟩; omega; omega; have := emI.mp z; omega), ic_t ex] at hV'
      unfold J_X12_touchDrop_73 J_X12_touchDrop_83
      refine hs_ite (fun z => absurd z (by decide)) (fun _ => hs_ite (fun c8 => ?_) (fun c8 => hs_ite (fun c9 => ?_) (fun c9 => ?_)))
      · have c10 := o_eq c8
        rw [if_pos (by omega), ls_e (DS_l GI ii)] at hV'
        refine hs_at hO (hs_gd (fun _ => ?_))
        rw [i1]
        have gi := (GI.2 (a + 1) (by omega) ii).1
        exact r_drop121 hO hN TO n20 S w2 wn ae (by show mR δ b (a + 1) = _; omega) (by decide) (by decide) hV'
      · have c10 := o_ne c8
        have c11 := o_eq c9
        rw [if_neg (by omega), if_pos (by omega), gs_e (DS_g GI ii)] at hV'
        refine hs_at hO (hs_gd (fun _ => ?_))
        rw [i2 ii]
        have gi := (GI.2 (e - 1 - 1) (by omega) (by omega)).1
        exact r_drop121 hO hN TO n20 S w2 wn ae (by show mR δ b (e - 1 - 1) = _; omega) (by decide) (by decide) hV'
      · have c10 := o_ne c8
        have c11 := o_ne c9
        exfalso; omega
  refine hs_ite (fun c => go 1 (Or.inr ⟨rfl, Or.inl (by have := o_eq c; omega)⟩)) (fun c => hs_ite (fun c2 => go 1 (Or.inr ⟨rfl, Or.inr (by have := o_eq c2; omega)⟩)) (fun c2 => go 0 (Or.inl ⟨rfl, fun z => ?_⟩)))
  have := o_ne c
  have := o_ne c2
  omega
end
end
