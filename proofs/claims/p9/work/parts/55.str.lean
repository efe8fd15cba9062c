theorem tx_le {i : Nat} (h : i < 16) : 1 ≤ tx_n i ∧ tx_n i ≤ 6 := by
  have H : ∀ i : Fin 16, 1 ≤ tx_n i.val ∧ tx_n i.val ≤ 6 := by decide +kernel
  exact H ⟨i, h⟩
set_option maxRecDepth 20000 in
theorem k_J0_length_8abf5 {ad : List Nat} {h : hp} (L : Lay TLx ad h) {δ0 : dp} {N : Nat} (hN : 10000000 ≤ N) {a0 : Nat} {δ : dp} (z0 : a0 < 16) (I : CI ad h.1 δ0 δ) : ok (D_J0_length_8abf5 N h.1 a0 δ) (fun r => r.2 = δ ∧ (r.1).toInt = (tx_n a0 : Int)) := by
  have H : ∀ i : Fin 16, ((Int32.ofNat (tx_n i.val)) >>> ((0 : Int32) &&& 31)).toInt = (tx_n i.val : Int) := by decide +kernel
  have e : D_J0_coder_7d493 N h.1 a0 δ = some (0, δ) := by
    rw [D_J0_coder_7d493, if_neg (by decide), J_J0_coder_7d493_14, if_pos (by rfl)]
  rw [D_J0_length_8abf5, e]
  exact ok_some ⟨rfl, H ⟨a0, z0⟩⟩
set_option maxRecDepth 20000 in
theorem k_J0_charAt_5068e {ad : List Nat} {h : hp} (L : Lay TLx ad h) {δ0 : dp} {N : Nat} (hN : 10000000 ≤ N) {a0 : Nat} {x1 : Int32} {δ : dp} (z0 : a0 < 16) (z1 : 0 ≤ (x1).toInt) (z2 : (x1).toInt < (tx_n a0 : Int)) (I : CI ad h.1 δ0 δ) : ok (D_J0_charAt_5068e N h.1 a0 x1 δ) (fun r => r.2 = δ) := by
  have hb := tx_le z0
  have H : ∀ (i : Fin 16) (j : Fin 6), narrow .char (.int ((((tx_b i.val j.val) &&& (255 : Int32)).toUInt32 % 65536).toInt32)) = .int ((((tx_b i.val j.val) &&& (255 : Int32)).toUInt32 % 65536).toInt32) := by decide +kernel
  have t := ti_tn x1
  have e1 : D_J0_isLatin1_aae02 N h.1 a0 δ = some (1, δ) := by
    rw [D_J0_isLatin1_aae02, if_neg (by decide), if_pos rfl, J_J0_isLatin1_aae02_18, if_pos (by decide)]
  have f0 := n_ti (tx_n a0) (by omega)
  have e2 : D_J0_checkIndex_df160 N h.1 x1 (Int32.ofNat (tx_n a0)) δ = some δ := by
    rw [D_J0_checkIndex_df160, D_J3_checkIndex_8e157, if_neg (fun c => by have := o_lt c; have f1 : (0 : Int32).toInt = 0 := rfl; omega), if_pos (i_lt (by omega))]
    rfl
  have hn := H ⟨a0, z0⟩ ⟨x1.toNatClampNeg, by omega⟩
  dsimp only at hn
  rw [D_J0_charAt_5068e, e1, Option.bind_some, if_neg (by simp), D_J1_charAt_3b067, e2, Option.bind_some]
  rw [if_neg (fun c => by rcases c with c | c <;> first | omega | (have c2 := o_lt c; have f1 : (0 : Int32).toInt = 0 := rfl; omega)), if_pos hn, Option.bind_some, if_pos hn]
  exact ok_some rfl
