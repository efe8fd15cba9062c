/-! how many bits are set -/
def pc : Nat → Nat → Nat
  | 0, _ => 0
  | k + 1, s => s % 2 + pc k (s / 2)
theorem pc_0 (k : Nat) : pc k 0 = 0 := by
  induction k with
  | zero => rfl
  | succ k ih => show 0 % 2 + pc k (0 / 2) = 0; rw [Nat.zero_div, ih]
theorem pc_dec (k : Nat) : ∀ b : Nat, b ≠ 0 → b < 2 ^ k → pc k (b &&& (b - 1)) + 1 = pc k b := by
  induction k with
  | zero => intro b h0 h1; exfalso; simp at h1; omega
  | succ k ih =>
    intro b h0 h1
    show (b &&& (b - 1)) % 2 + pc k ((b &&& (b - 1)) / 2) + 1 = b % 2 + pc k (b / 2)
    rw [Nat.and_div_two]
    have hm : (b &&& (b - 1)) % 2 = 0 := by
      have : (b &&& (b - 1)) % 2 = (b % 2) &&& ((b - 1) % 2) := Nat.and_mod_two_pow (n := 1)
      rw [this]
      rcases Nat.mod_two_eq_zero_or_one b with e | e
      · rw [e, Nat.zero_and]
      · rw [show (b - 1) % 2 = 0 by omega, Nat.and_zero]
    rw [hm]
    rcases Nat.mod_two_eq_zero_or_one b with e | e
    · rw [show (b - 1) / 2 = b / 2 - 1 by omega, e]
      have := ih (b / 2) (by omega) (by rw [Nat.pow_succ] at h1; omega)
      omega
    · rw [show (b - 1) / 2 = b / 2 by omega, Nat.and_self, e]
      omega
theorem pc_or (k : Nat) : ∀ s x : Nat, pc k (s ||| 2 ^ x) ≤ pc k s + 1 := by
  induction k with
  | zero => intro s x; exact Nat.zero_le _
  | succ k ih =>
    intro s x
    show (s ||| 2 ^ x) % 2 + pc k ((s ||| 2 ^ x) / 2) ≤ s % 2 + pc k (s / 2) + 1
    rw [Nat.or_div_two]
    have hm : (s ||| 2 ^ x) % 2 = (s % 2) ||| (2 ^ x % 2) := Nat.or_mod_two_pow (n := 1)
    cases x with
    | zero =>
      rw [show 2 ^ 0 / 2 = 0 from rfl, Nat.or_zero]
      have : (s ||| 2 ^ 0) % 2 < 2 := Nat.mod_lt _ (by decide)
      omega
    | succ x =>
      have e2 : 2 ^ (x + 1) / 2 = 2 ^ x := by rw [Nat.pow_succ]; omega
      have e0 : 2 ^ (x + 1) % 2 = 0 := by rw [Nat.pow_succ]; omega
      rw [hm, e0, Nat.or_zero, e2]
      have := ih (s / 2) x
      omega
theorem pc_and (k : Nat) : ∀ s y : Nat, pc k (s &&& y) ≤ pc k s := by
  induction k with
  | zero => intro s x; exact Nat.zero_le _
  | succ k ih =>
    intro s y
    show (s &&& y) % 2 + pc k ((s &&& y) / 2) ≤ s % 2 + pc k (s / 2)
    rw [Nat.and_div_two]
    have hm : (s &&& y) % 2 = (s % 2) &&& (y % 2) := Nat.and_mod_two_pow (n := 1)
    have := ih (s / 2) (y / 2)
    have h2 : (s % 2) &&& (y % 2) ≤ s % 2 := Nat.and_le_left
    omega
/-- an int that is not below zero, as a Nat -/
def un (a : Int32) : Nat := a.toBitVec.toNat
theorem un_i {a : Int32} (h : 0 ≤ a.toInt) : a.toInt = (un a : Int) := by
  unfold un
  have h1 : a.toInt = a.toBitVec.toInt := rfl
  rw [h1] at h ⊢
  rw [BitVec.toInt_eq_toNat_cond] at h ⊢
  have := a.toBitVec.isLt
  split at h
  · rename_i c; rw [if_pos c]
  · exfalso; omega
theorem un_o {a : Int32} (h : un a < 2147483648) : a.toInt = (un a : Int) := by
  unfold un at h ⊢
  have h1 : a.toInt = a.toBitVec.toInt := rfl
  rw [h1, BitVec.toInt_eq_toNat_cond, if_pos (by omega)]
theorem un_and (a b : Int32) : un (a &&& b) = un a &&& un b := by unfold un; rw [Int32.toBitVec_and, BitVec.toNat_and]
theorem un_or (a b : Int32) : un (a ||| b) = un a ||| un b := by unfold un; rw [Int32.toBitVec_or, BitVec.toNat_or]
theorem un_sl {x : Int32} (h0 : 0 ≤ x.toInt) (h1 : x.toInt < 16) : un ((1 : Int32) <<< (x &&& 31)) = 2 ^ x.toInt.toNat := by
  have H : ∀ j : Fin 16, un ((1 : Int32) <<< ((Int32.ofNat j.val) &&& 31)) = 2 ^ j.val := by decide +kernel
  have e : x = Int32.ofNat x.toInt.toNat := by
    apply Int32.toInt_inj.mp
    rw [Int32.toInt_ofNat_of_lt (by omega)]
    omega
  have := H ⟨x.toInt.toNat, by omega⟩
  rw [← e] at this
  exact this
