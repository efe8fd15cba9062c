/-! the reference's words -/
def ch (i j : Nat) : Int32 := (((tx_b i j) &&& (255 : Int32)).toUInt32 % 65536).toInt32
def ofg (i : Nat) : Nat → Nat → Int32 → Int32
  | _, 0, x => x
  | j, m + 1, x => ofg i (j + 1) m ((x <<< ((5 : Int32) &&& 31)) ||| (ch i j - (96 : Int32)))
set_option maxRecDepth 20000 in
theorem e_len {N : Nat} {g : gp} {a0 : Nat} {δ : dp} (z0 : a0 < 16) : D_J0_length_8abf5 N g a0 δ = some (Int32.ofNat (tx_n a0), δ) := by
  have H : ∀ i : Fin 16, ((Int32.ofNat (tx_n i.val)) >>> ((0 : Int32) &&& 31)) = Int32.ofNat (tx_n i.val) := by decide +kernel
  have e : D_J0_coder_7d493 N g a0 δ = some (0, δ) := by
    rw [D_J0_coder_7d493, if_neg (by decide), J_J0_coder_7d493_14, if_pos (by rfl)]
  rw [D_J0_length_8abf5, e]
  show some ((Int32.ofNat (tx_n a0)) >>> ((0 : Int32) &&& 31), δ) = _
  rw [H ⟨a0, z0⟩]
set_option maxRecDepth 20000 in
theorem e_chr {N : Nat} {g : gp} {a0 : Nat} {x1 : Int32} {δ : dp} (z0 : a0 < 16) (z1 : 0 ≤ (x1).toInt) (z2 : (x1).toInt < (tx_n a0 : Int)) : D_J0_charAt_5068e N g a0 x1 δ = some (ch a0 x1.toNatClampNeg, δ) := by
  have hb := tx_le z0
  have H : ∀ (i : Fin 16) (j : Fin 6), narrow .char (.int ((((tx_b i.val j.val) &&& (255 : Int32)).toUInt32 % 65536).toInt32)) = .int ((((tx_b i.val j.val) &&& (255 : Int32)).toUInt32 % 65536).toInt32) := by decide +kernel
  have t := ti_tn x1
  have e1 : D_J0_isLatin1_aae02 N g a0 δ = some (1, δ) := by
    rw [D_J0_isLatin1_aae02, if_neg (by decide), if_pos rfl, J_J0_isLatin1_aae02_18, if_pos (by decide)]
  have f0 := n_ti (tx_n a0) (by omega)
  have e2 : D_J0_checkIndex_df160 N g x1 (Int32.ofNat (tx_n a0)) δ = some δ := by
    rw [D_J0_checkIndex_df160, D_J3_checkIndex_8e157, if_neg (fun c => by have := o_lt c; have f1 : (0 : Int32).toInt = 0 := rfl; omega), if_pos (i_lt (by omega))]
    rfl
  have hn := H ⟨a0, z0⟩ ⟨x1.toNatClampNeg, by omega⟩
  dsimp only at hn
  rw [D_J0_charAt_5068e, e1, Option.bind_some, if_neg (by simp), D_J1_charAt_3b067, e2, Option.bind_some]
  rw [if_neg (fun c => by rcases c with c | c <;> first | omega | (have c2 := o_lt c; have f1 : (0 : Int32).toInt = 0 := rfl; omega)), if_pos hn, Option.bind_some, if_pos hn]
  rfl
theorem fl_of {N : Nat} {g : gp} {i : Nat} {δ : dp} (z0 : i < 16) : ∀ (m j n : Nat) (x : Int32), j + m = tx_n i → m < n → L_X12_of_4 N g i n x (Int32.ofNat j) δ = some (ofg i j m x, δ) := by
  have hb := tx_le z0
  intro m
  induction m with
  | zero =>
    intro j n x h1 h2
    obtain ⟨n, rfl⟩ : ∃ k, n = k + 1 := ⟨n - 1, by omega⟩
    rw [L_X12_of_4, e_len z0]
    rw [Option.bind_some, if_pos (by rw [show j = tx_n i by omega]; exact Int32.le_refl _)]
    rfl
  | succ m ih =>
    intro j n x h1 h2
    obtain ⟨n, rfl⟩ : ∃ k, n = k + 1 := ⟨n - 1, by omega⟩
    have f0 := n_ti (tx_n i) (by omega)
    have f1 := n_ti j (by omega)
    have f2 := n_cl j (by omega)
    have c : ¬ (Int32.ofNat (tx_n i) ≤ Int32.ofNat j) := fun c => by
      have := o_le c
      omega
    rw [L_X12_of_4, e_len z0, Option.bind_some, if_neg c, e_chr z0 (by omega) (by omega), Option.bind_some, f2]
    show L_X12_of_4 N g i n ((x <<< ((5 : Int32) &&& 31)) ||| (ch i j - (96 : Int32))) (Int32.ofNat j + 1) δ = _
    rw [show Int32.ofNat j + 1 = Int32.ofNat (j + 1) from n_addl j 1]
    exact ih (j + 1) n _ (by omega) (by omega)
theorem k_X12_of {ad : List Nat} {h : hp} (L : Lay TLx ad h) {δ0 : dp} {N : Nat} (hN : 10000000 ≤ N) {a0 : Nat} {δ : dp} (z0 : a0 < 16) (I : RI ad h.1 δ0 δ) : ok (D_X12_of N h.1 a0 δ) (fun r => r.2 = δ ∧ (r.1).toInt ≠ 0) := by
  have H : ∀ i : Fin 16, (ofg i.val 0 (tx_n i.val) 0).toInt ≠ 0 := by decide +kernel
  have hb := tx_le z0
  unfold D_X12_of
  exact ok_eq (fl_of z0 (tx_n a0) 0 N 0 (by omega) (by omega)) ⟨rfl, H ⟨a0, z0⟩⟩
