/-! TOUCHES by HALVES, of a set of numbers -/
noncomputable def ic (p : Prop) (a b : Int) : Int := @ite Int p (Classical.propDecidable p) a b
theorem ic_t {p : Prop} {a b : Int} (h : p) : ic p a b = a := by unfold ic; exact if_pos h
theorem ic_f {p : Prop} {a b : Int} (h : ¬ p) : ic p a b = b := by unfold ic; exact if_neg h
theorem ic_b {p : Prop} {a b l u : Int} (ha : l ≤ a ∧ a ≤ u) (hb : l ≤ b ∧ b ≤ u) : l ≤ ic p a b ∧ ic p a b ≤ u := by
  by_cases h : p
  · rw [ic_t h]; exact ha
  · rw [ic_f h]; exact hb
def Lst (P : Nat → Prop) (a : Nat) : Prop := P a ∧ ∀ y, P y → a ≤ y
def Gst (P : Nat → Prop) (b : Nat) : Prop := P b ∧ ∀ y, P y → y ≤ b
def Emp (P : Nat → Prop) : Prop := ∀ y, ¬ P y
def Ins (P : Nat → Prop) (a b : Nat) : Nat → Prop := fun y => P y ∧ a < y ∧ y < b
def Lis (I : Nat → Prop) (q : Nat) : Nat → Prop := fun u => ∃ y, I y ∧ y / q = u
def Roo (I : Nat → Prop) (q u : Nat) : Nat → Prop := fun v => ∃ y, I y ∧ y / q = u ∧ y % q = v
noncomputable def ls (P : Nat → Prop) : Nat := Classical.epsilon (fun a => Lst P a)
noncomputable def gs (P : Nat → Prop) : Nat := Classical.epsilon (fun a => Gst P a)
theorem ls_e {P : Nat → Prop} {a : Nat} (h : Lst P a) : ls P = a := by
  have t : Lst P (ls P) := Classical.epsilon_spec (p := fun a => Lst P a) ⟨a, h⟩
  exact Nat.le_antisymm (t.2 a h.1) (h.2 _ t.1)
theorem gs_e {P : Nat → Prop} {a : Nat} (h : Gst P a) : gs P = a := by
  have t : Gst P (gs P) := Classical.epsilon_spec (p := fun a => Gst P a) ⟨a, h⟩
  exact Nat.le_antisymm (h.2 _ t.1) (t.2 a h.1)
theorem Emp_e {P : Nat → Prop} {a : Nat} (h : Lst P a) : ¬ Emp P := fun z => z a h.1
def cl (x : Int) (a b : Nat) : Nat := if x < (a : Int) then a else if (b : Int) < x then b else x.toNat
noncomputable def TBp (x : Int) (I : Nat → Prop) (a b q : Nat) (room list : Nat → Int) : Int := ic (x = (a : Int) ∨ x = (b : Int)) 1 (ic (Emp (Roo I q (cl x a b / q))) (2 + list (cl x a b)) (1 + room (cl x a b)))
noncomputable def TBh (x : Int) (I : Nat → Prop) (a b q : Nat) (room : Nat → Int) : Int := ic (x ≤ (a : Int) ∨ (b : Int) ≤ x ∨ Emp (Roo I q (x.toNat / q))) 1 (1 + room x.toNat)
noncomputable def TBe (I : Nat → Prop) (q : Nat) (room list : Nat → Int) (m : Int) (y : Nat) : Int := ic (Emp (Roo I q (y / q))) m (ic (I y ∧ ∀ z, I z → z / q = y / q → z = y) (m + 1 + list y) (m + room y))
noncomputable def TBd (x : Int) (I : Nat → Prop) (a b q : Nat) (room list : Nat → Int) : Int := ic (x < (a : Int) ∨ (b : Int) < x ∨ ((x = (a : Int) ∨ x = (b : Int)) ∧ Emp I)) 1 (TBe I q room list (ic (x = (a : Int) ∨ x = (b : Int)) 3 1) (if x = (a : Int) then ls I else if x = (b : Int) then gs I else x.toNat))
noncomputable def TBn (x : Int) (I : Nat → Prop) (a b q : Nat) (room list : Nat → Int) : Int := ic (x < (a : Int) ∨ (b : Int) ≤ x ∨ Emp I) 1 (ic (∃ g, Gst (Roo I q (x.toNat / q)) g ∧ x.toNat % q < g) (2 + room x.toNat) (1 + ic (Emp (Roo I q (x.toNat / q))) 0 1 + ic (∃ z, I z ∧ x.toNat / q < z / q) 1 0 + list x.toNat))
noncomputable def TBb (x : Int) (I : Nat → Prop) (a b q : Nat) (room list : Nat → Int) : Int := ic ((b : Int) < x ∨ x ≤ (a : Int) ∨ Emp I) 1 (ic (∃ g, Lst (Roo I q (x.toNat / q)) g ∧ g < x.toNat % q) (2 + room x.toNat) (1 + ic (Emp (Roo I q (x.toNat / q))) 0 1 + ic (∃ z, I z ∧ z / q < x.toNat / q) 1 0 + list x.toNat))
noncomputable def TB (c x : Int) (I : Nat → Prop) (a b q : Nat) (room list : Nat → Int) : Int := if c = 0 then TBp x I a b q room list else if c = 1 then TBd x I a b q room list else if c = 3 then TBn x I a b q room list else if c = 4 then TBb x I a b q room list else TBh x I a b q room
noncomputable def Tou (E : Nat) (lw : Nat → Nat) : Nat → Int → Int → Nat → (Nat → Prop) → Int
  | 0, _, _, _, _ => 0
  | n + 1, c, x, w, P => ic (w ≤ E ∨ Emp P) 1 (ic (ls P = gs P) 1 (TB c x (Ins P (ls P) (gs P)) (ls P) (gs P) (2 ^ lw w) (fun y => Tou E lw n c ((y % 2 ^ lw w : Nat) : Int) (lw w) (Roo (Ins P (ls P) (gs P)) (2 ^ lw w) (y / 2 ^ lw w))) (fun y => Tou E lw n c ((y / 2 ^ lw w : Nat) : Int) (w - lw w) (Lis (Ins P (ls P) (gs P)) (2 ^ lw w)))))
/-- TOUCHES of a room, of a list -/
noncomputable def tR (E : Nat) (lw : Nat → Nat) (n : Nat) (c : Int) (w : Nat) (I : Nat → Prop) (y : Nat) : Int := Tou E lw n c ((y % 2 ^ lw w : Nat) : Int) (lw w) (Roo I (2 ^ lw w) (y / 2 ^ lw w))
noncomputable def tL (E : Nat) (lw : Nat → Nat) (n : Nat) (c : Int) (w : Nat) (I : Nat → Prop) (y : Nat) : Int := Tou E lw n c ((y / 2 ^ lw w : Nat) : Int) (w - lw w) (Lis I (2 ^ lw w))
section
variable {E : Nat} {lw : Nat → Nat} {n : Nat} {c x : Int} {w : Nat} {P : Nat → Prop} {a b : Nat}
theorem Tou_e (h : w ≤ E ∨ Emp P) : Tou E lw (n + 1) c x w P = 1 := by
  unfold Tou
  exact ic_t h
theorem Tou_1 (A : Lst P a) (B : Gst P b) (e : a = b) : Tou E lw (n + 1) c x w P = 1 := by
  unfold Tou
  rw [ls_e A, gs_e B]
  by_cases h : w ≤ E ∨ Emp P
  · exact ic_t h
  · rw [ic_f h, ic_t e]
theorem Tou_s (h : E < w) (A : Lst P a) (B : Gst P b) (e : a ≠ b) : Tou E lw (n + 1) c x w P = TB c x (Ins P a b) a b (2 ^ lw w) (tR E lw n c w (Ins P a b)) (tL E lw n c w (Ins P a b)) := by
  unfold Tou
  rw [ls_e A, gs_e B, ic_f (fun z => z.elim (fun y => by omega) (Emp_e A)), ic_f e]
  rfl
end
theorem TB_b {c x : Int} {I : Nat → Prop} {a b q : Nat} {room list : Nat → Int} {m : Int} (hm : 0 ≤ m) (hr : ∀ y, 0 ≤ room y ∧ room y ≤ m) (hl : ∀ y, 0 ≤ list y ∧ list y ≤ m) : 0 ≤ TB c x I a b q room list ∧ TB c x I a b q room list ≤ m + 4 := by
  have r := hr
  have l := hl
  have e1 : 0 ≤ (1 : Int) ∧ (1 : Int) ≤ m + 4 := ⟨by omega, by omega⟩
  unfold TB
  by_cases c0 : c = 0
  · rw [if_pos c0]
    unfold TBp
    exact ic_b e1 (ic_b ⟨by have := l (cl x a b); omega, by have := l (cl x a b); omega⟩ ⟨by have := r (cl x a b); omega, by have := r (cl x a b); omega⟩)
  rw [if_neg c0]
  by_cases c1 : c = 1
  · rw [if_pos c1]
    unfold TBd TBe
    refine ic_b e1 ?_
    generalize (if x = (a : Int) then ls I else if x = (b : Int) then gs I else x.toNat) = y
    have mm : 1 ≤ ic (x = (a : Int) ∨ x = (b : Int)) 3 1 ∧ ic (x = (a : Int) ∨ x = (b : Int)) 3 1 ≤ 3 := ic_b ⟨by decide, by decide⟩ ⟨by decide, by decide⟩
    have r1 := r y
    have l1 := l y
    exact ic_b ⟨by omega, by omega⟩ (ic_b ⟨by omega, by omega⟩ ⟨by omega, by omega⟩)
  rw [if_neg c1]
  by_cases c3 : c = 3
  · rw [if_pos c3]
    unfold TBn
    have r1 := r x.toNat
    have l1 := l x.toNat
    have m1 : 0 ≤ ic (Emp (Roo I q (x.toNat / q))) 0 1 ∧ ic (Emp (Roo I q (x.toNat / q))) 0 1 ≤ 1 := ic_b ⟨by decide, by decide⟩ ⟨by decide, by decide⟩
    have m2 : 0 ≤ ic (∃ z, I z ∧ x.toNat / q < z / q) 1 0 ∧ ic (∃ z, I z ∧ x.toNat / q < z / q) 1 0 ≤ 1 := ic_b ⟨by decide, by decide⟩ ⟨by decide, by decide⟩
    exact ic_b e1 (ic_b ⟨by omega, by omega⟩ ⟨by omega, by omega⟩)
  rw [if_neg c3]
  by_cases c4 : c = 4
  · rw [if_pos c4]
    unfold TBb
    have r1 := r x.toNat
    have l1 := l x.toNat
    have m1 : 0 ≤ ic (Emp (Roo I q (x.toNat / q))) 0 1 ∧ ic (Emp (Roo I q (x.toNat / q))) 0 1 ≤ 1 := ic_b ⟨by decide, by decide⟩ ⟨by decide, by decide⟩
    have m2 : 0 ≤ ic (∃ z, I z ∧ z / q < x.toNat / q) 1 0 ∧ ic (∃ z, I z ∧ z / q < x.toNat / q) 1 0 ≤ 1 := ic_b ⟨by decide, by decide⟩ ⟨by decide, by decide⟩
    exact ic_b e1 (ic_b ⟨by omega, by omega⟩ ⟨by omega, by omega⟩)
  rw [if_neg c4]
  unfold TBh
  have r1 := r x.toNat
  exact ic_b e1 ⟨by omega, by omega⟩
theorem Tou_b {E : Nat} {lw : Nat → Nat} : ∀ (n : Nat) (c x : Int) (w : Nat) (P : Nat → Prop), 0 ≤ Tou E lw n c x w P ∧ Tou E lw n c x w P ≤ 4 * (n : Int) := by
  intro n
  induction n with
  | zero => intro c x w P; exact ⟨Int.le_refl _, Int.le_refl _⟩
  | succ n ih =>
    intro c x w P
    unfold Tou
    have e1 : 0 ≤ (1 : Int) ∧ (1 : Int) ≤ 4 * ((n + 1 : Nat) : Int) := ⟨by omega, by omega⟩
    have t := TB_b (c := c) (x := x) (I := Ins P (ls P) (gs P)) (a := ls P) (b := gs P) (q := 2 ^ lw w) (room := fun y => Tou E lw n c ((y % 2 ^ lw w : Nat) : Int) (lw w) (Roo (Ins P (ls P) (gs P)) (2 ^ lw w) (y / 2 ^ lw w))) (list := fun y => Tou E lw n c ((y / 2 ^ lw w : Nat) : Int) (w - lw w) (Lis (Ins P (ls P) (gs P)) (2 ^ lw w))) (m := 4 * (n : Int)) (by omega) (fun y => ih _ _ _ _) (fun y => ih _ _ _ _)
    exact ic_b e1 (ic_b e1 ⟨t.1, by omega⟩)
/-! shifts and masks -/
theorem sr_i {a s : Int32} {A n : Nat} (ha : a.toInt = (A : Int)) (hs : s.toInt = (n : Int)) (hn : n ≤ 31) : (a >>> (s &&& 31)).toInt = ((A / 2 ^ n : Nat) : Int) := by
  have H : ∀ j : Fin 32, ((Int32.ofNat j.val &&& 31).toBitVec.smod 32).toNat = j.val := by decide +kernel
  have e : s = Int32.ofNat n := Int32.toInt_inj.mp (by rw [Int32.toInt_ofNat_of_lt (by omega)]; exact hs)
  have t := H ⟨n, by omega⟩
  dsimp only at t
  rw [e]
  show (a.toBitVec.sshiftRight' ((Int32.ofNat n &&& 31).toBitVec.smod 32)).toInt = _
  rw [BitVec.toInt_sshiftRight', t]
  show a.toInt >>> n = _
  rw [ha, Int.shiftRight_eq_div_pow]
  exact (Int.natCast_ediv A (2 ^ n)).symm
theorem p2_i {s : Int32} {n : Nat} (hs : s.toInt = (n : Int)) (hn : n ≤ 16) : ((1 : Int32) <<< (s &&& 31)).toInt = ((2 ^ n : Nat) : Int) ∧ un (((1 : Int32) <<< (s &&& 31)) - 1) = 2 ^ n - 1 := by
  have H : ∀ j : Fin 17, ((1 : Int32) <<< (Int32.ofNat j.val &&& 31)).toInt = ((2 ^ j.val : Nat) : Int) ∧ un (((1 : Int32) <<< (Int32.ofNat j.val &&& 31)) - 1) = 2 ^ j.val - 1 := by decide +kernel
  have e : s = Int32.ofNat n := Int32.toInt_inj.mp (by rw [Int32.toInt_ofNat_of_lt (by omega)]; exact hs)
  have t := H ⟨n, by omega⟩
  dsimp only at t
  rw [e]
  exact t
theorem p2_b {n : Nat} (hn : n ≤ 16) : 1 ≤ 2 ^ n ∧ 2 ^ n ≤ 65536 := ⟨Nat.one_le_two_pow, Nat.pow_le_pow_right (n := 2) (by decide) hn⟩
theorem ms_i {v s : Int32} {V n : Nat} (hv : v.toInt = (V : Int)) (hs : s.toInt = (n : Int)) (hn : n ≤ 16) : (v &&& (((1 : Int32) <<< (s &&& 31)) - 1)).toInt = ((V % 2 ^ n : Nat) : Int) := by
  have b := p2_b hn
  have uv : un v = V := by have := un_i (a := v) (by omega); omega
  have e : un (v &&& (((1 : Int32) <<< (s &&& 31)) - 1)) = V % 2 ^ n := by rw [un_and, (p2_i hs hn).2, uv, Nat.and_two_pow_sub_one_eq_mod]
  have l : V % 2 ^ n < 2 ^ n := Nat.mod_lt _ (by omega)
  rw [un_o (by omega), e]
theorem sl_i {u s : Int32} {U n : Nat} (hu : u.toInt = (U : Int)) (hs : s.toInt = (n : Int)) (hn : n ≤ 16) (hb : U * 2 ^ n < 2147483648) : (u <<< (s &&& 31)).toInt = ((U * 2 ^ n : Nat) : Int) := by
  have H : ∀ j : Fin 32, ((Int32.ofNat j.val &&& 31).toBitVec.smod 32).toNat = j.val := by decide +kernel
  have e : s = Int32.ofNat n := Int32.toInt_inj.mp (by rw [Int32.toInt_ofNat_of_lt (by omega)]; exact hs)
  have t := H ⟨n, by omega⟩
  dsimp only at t
  have uu : un u = U := by have := un_i (a := u) (by omega); omega
  have g : un (u <<< (s &&& 31)) = U * 2 ^ n := by
    rw [e]
    show (u.toBitVec <<< ((Int32.ofNat n &&& 31).toBitVec.smod 32)).toNat = _
    rw [BitVec.shiftLeft_eq', t, BitVec.toNat_shiftLeft, Nat.shiftLeft_eq]
    show un u * 2 ^ n % 2 ^ 32 = _
    rw [uu]
    exact Nat.mod_eq_of_lt (by omega)
  rw [un_o (by omega), g]
theorem dm_le {A B q : Nat} (h : A ≤ B) (e : A / q = B / q) : A % q ≤ B % q := by
  have h1 := Nat.div_add_mod A q
  have h2 := Nat.div_add_mod B q
  rw [e] at h1
  omega
def lwf (m : Int32) (w : Nat) : Nat := if m = 0 then (w + 1) / 2 else w / 2
theorem lwf_b {m : Int32} {w : Nat} (h : 2 ≤ w) : 1 ≤ lwf m w ∧ lwf m w < w := by
  unfold lwf
  split <;> omega
theorem mR_w {δ d : dp} {b : Nat} (w : q_R d = q_R δ) : mR d b = mR δ b := by funext i; unfold mR; rw [w]
theorem dq_lt {A B q : Nat} (e : A / q = B / q) : A % q < B % q ↔ A < B := by
  have h1 := Nat.div_add_mod A q
  have h2 := Nat.div_add_mod B q
  rw [e] at h1
  omega
theorem dq_u {A B q : Nat} (e : A / q = B / q) (m : A % q = B % q) : A = B := by
  have h1 := Nat.div_add_mod A q
  have h2 := Nat.div_add_mod B q
  rw [e, m] at h1
  omega
theorem Gst_u {P : Nat → Prop} {a b : Nat} (h : Gst P a) (k : Gst P b) : a = b := Nat.le_antisymm (k.2 a h.1) (h.2 b k.1)
theorem Lst_u {P : Nat → Prop} {a b : Nat} (h : Lst P a) (k : Lst P b) : a = b := Nat.le_antisymm (h.2 b k.1) (k.2 a h.1)
