/-! static facts of the pools, by gen.py -/
theorem tabne {x n : Int32} (h : ¬ x = n) : x.toInt ≠ n.toInt := fun e => h (Int32.toInt_inj.mp e)
theorem T_0 {w : Cond} (i : Nat) (h : (k2_sels lw_privs)[i]? = some w) (g : goodWord w = true) : w ∈ TT := List.mem_filter.mpr ⟨List.mem_append_left _ (List.mem_of_getElem? h), g⟩
def nst (w : Cond) : Bool := nst0 w
theorem L_1 {w : Cond} (i : Nat) (h : tables_1_1[i]? = some w) : w ∈ lw_tbl := List.mem_append_right _ (show w ∈ tables_1 from List.mem_append_left _ (List.mem_of_getElem? h))
theorem T_1 {w : Cond} (i : Nat) (h : tables_1_1[i]? = some w) (g : goodWord w = true) : w ∈ TT := List.mem_filter.mpr ⟨L_1 i h, g⟩
theorem N_1 {w : Cond} (i : Nat) (h : tables_1_1[i]? = some w) (g : nst0 w = true) : w ∈ NW := List.mem_filter.mpr ⟨L_1 i h, g⟩
theorem L_2 {w : Cond} (i : Nat) (h : tables_1_2[i]? = some w) : w ∈ lw_tbl := List.mem_append_right _ (show w ∈ tables_1 from List.mem_append_right _ (List.mem_append_left _ (List.mem_of_getElem? h)))
theorem T_2 {w : Cond} (i : Nat) (h : tables_1_2[i]? = some w) (g : goodWord w = true) : w ∈ TT := List.mem_filter.mpr ⟨L_2 i h, g⟩
theorem N_2 {w : Cond} (i : Nat) (h : tables_1_2[i]? = some w) (g : nst0 w = true) : w ∈ NW := List.mem_filter.mpr ⟨L_2 i h, g⟩
theorem L_3 {w : Cond} (i : Nat) (h : tables_1_3[i]? = some w) : w ∈ lw_tbl := List.mem_append_right _ (show w ∈ tables_1 from List.mem_append_right _ (List.mem_append_right _ (List.mem_append_left _ (List.mem_of_getElem? h))))
theorem T_3 {w : Cond} (i : Nat) (h : tables_1_3[i]? = some w) (g : goodWord w = true) : w ∈ TT := List.mem_filter.mpr ⟨L_3 i h, g⟩
theorem N_3 {w : Cond} (i : Nat) (h : tables_1_3[i]? = some w) (g : nst0 w = true) : w ∈ NW := List.mem_filter.mpr ⟨L_3 i h, g⟩
theorem L_4 {w : Cond} (i : Nat) (h : tables_1_4[i]? = some w) : w ∈ lw_tbl := List.mem_append_right _ (show w ∈ tables_1 from List.mem_append_right _ (List.mem_append_right _ (List.mem_append_right _ (List.mem_append_left _ (List.mem_of_getElem? h)))))
theorem T_4 {w : Cond} (i : Nat) (h : tables_1_4[i]? = some w) (g : goodWord w = true) : w ∈ TT := List.mem_filter.mpr ⟨L_4 i h, g⟩
theorem N_4 {w : Cond} (i : Nat) (h : tables_1_4[i]? = some w) (g : nst0 w = true) : w ∈ NW := List.mem_filter.mpr ⟨L_4 i h, g⟩
theorem L_5 {w : Cond} (i : Nat) (h : tables_1_5[i]? = some w) : w ∈ lw_tbl := List.mem_append_right _ (show w ∈ tables_1 from List.mem_append_right _ (List.mem_append_right _ (List.mem_append_right _ (List.mem_append_right _ (List.mem_append_left _ (List.mem_of_getElem? h))))))
theorem T_5 {w : Cond} (i : Nat) (h : tables_1_5[i]? = some w) (g : goodWord w = true) : w ∈ TT := List.mem_filter.mpr ⟨L_5 i h, g⟩
theorem N_5 {w : Cond} (i : Nat) (h : tables_1_5[i]? = some w) (g : nst0 w = true) : w ∈ NW := List.mem_filter.mpr ⟨L_5 i h, g⟩
theorem L_6 {w : Cond} (i : Nat) (h : tables_1_6[i]? = some w) : w ∈ lw_tbl := List.mem_append_right _ (show w ∈ tables_1 from List.mem_append_right _ (List.mem_append_right _ (List.mem_append_right _ (List.mem_append_right _ (List.mem_append_right _ (List.mem_append_left _ (List.mem_of_getElem? h)))))))
theorem T_6 {w : Cond} (i : Nat) (h : tables_1_6[i]? = some w) (g : goodWord w = true) : w ∈ TT := List.mem_filter.mpr ⟨L_6 i h, g⟩
theorem N_6 {w : Cond} (i : Nat) (h : tables_1_6[i]? = some w) (g : nst0 w = true) : w ∈ NW := List.mem_filter.mpr ⟨L_6 i h, g⟩
theorem L_7 {w : Cond} (i : Nat) (h : tables_1_7[i]? = some w) : w ∈ lw_tbl := List.mem_append_right _ (show w ∈ tables_1 from List.mem_append_right _ (List.mem_append_right _ (List.mem_append_right _ (List.mem_append_right _ (List.mem_append_right _ (List.mem_append_right _ (List.mem_append_left _ (List.mem_of_getElem? h))))))))
theorem T_7 {w : Cond} (i : Nat) (h : tables_1_7[i]? = some w) (g : goodWord w = true) : w ∈ TT := List.mem_filter.mpr ⟨L_7 i h, g⟩
theorem N_7 {w : Cond} (i : Nat) (h : tables_1_7[i]? = some w) (g : nst0 w = true) : w ∈ NW := List.mem_filter.mpr ⟨L_7 i h, g⟩
theorem L_8 {w : Cond} (i : Nat) (h : tables_1_8[i]? = some w) : w ∈ lw_tbl := List.mem_append_right _ (show w ∈ tables_1 from List.mem_append_right _ (List.mem_append_right _ (List.mem_append_right _ (List.mem_append_right _ (List.mem_append_right _ (List.mem_append_right _ (List.mem_append_right _ (List.mem_append_left _ (List.mem_of_getElem? h)))))))))
theorem T_8 {w : Cond} (i : Nat) (h : tables_1_8[i]? = some w) (g : goodWord w = true) : w ∈ TT := List.mem_filter.mpr ⟨L_8 i h, g⟩
theorem N_8 {w : Cond} (i : Nat) (h : tables_1_8[i]? = some w) (g : nst0 w = true) : w ∈ NW := List.mem_filter.mpr ⟨L_8 i h, g⟩
theorem L_9 {w : Cond} (i : Nat) (h : tables_1_9[i]? = some w) : w ∈ lw_tbl := List.mem_append_right _ (show w ∈ tables_1 from List.mem_append_right _ (List.mem_append_right _ (List.mem_append_right _ (List.mem_append_right _ (List.mem_append_right _ (List.mem_append_right _ (List.mem_append_right _ (List.mem_append_right _ (List.mem_of_getElem? h)))))))))
theorem T_9 {w : Cond} (i : Nat) (h : tables_1_9[i]? = some w) (g : goodWord w = true) : w ∈ TT := List.mem_filter.mpr ⟨L_9 i h, g⟩
theorem N_9 {w : Cond} (i : Nat) (h : tables_1_9[i]? = some w) (g : nst0 w = true) : w ∈ NW := List.mem_filter.mpr ⟨L_9 i h, g⟩
theorem iw_0 : ∀ w ∈ u_ws RX0 TX0 8, w ∈ TT := by
  intro w hw
  obtain ⟨k, hk, rfl⟩ := List.mem_map.mp hw
  have hk := List.mem_range.mp hk
  match k, hk with
  | 0, _ => exact T_2 111 rfl rfl
  | 1, _ => exact T_2 113 rfl rfl
  | 2, _ => exact T_2 115 rfl rfl
  | 3, _ => exact T_2 117 rfl rfl
  | 4, _ => exact T_2 119 rfl rfl
  | 5, _ => exact T_2 121 rfl rfl
  | 6, _ => exact T_2 123 rfl rfl
  | 7, _ => exact T_2 125 rfl rfl
  | k + 8, h => exact absurd h (by omega)
theorem iw_1 : ∀ w ∈ u_ws RX1 TX1 16, w ∈ TT := by
  intro w hw
  obtain ⟨k, hk, rfl⟩ := List.mem_map.mp hw
  have hk := List.mem_range.mp hk
  match k, hk with
  | 0, _ => exact T_1 197 rfl rfl
  | 1, _ => exact T_1 199 rfl rfl
  | 2, _ => exact T_1 201 rfl rfl
  | 3, _ => exact T_1 203 rfl rfl
  | 4, _ => exact T_1 205 rfl rfl
  | 5, _ => exact T_1 207 rfl rfl
  | 6, _ => exact T_1 209 rfl rfl
  | 7, _ => exact T_1 211 rfl rfl
  | 8, _ => exact T_1 213 rfl rfl
  | 9, _ => exact T_1 215 rfl rfl
  | 10, _ => exact T_1 217 rfl rfl
  | 11, _ => exact T_1 219 rfl rfl
  | 12, _ => exact T_1 221 rfl rfl
  | 13, _ => exact T_1 223 rfl rfl
  | 14, _ => exact T_1 225 rfl rfl
  | 15, _ => exact T_1 227 rfl rfl
  | k + 16, h => exact absurd h (by omega)
theorem iw_2 : ∀ w ∈ u_ws RX2 TX2 5, w ∈ TT := by
  intro w hw
  obtain ⟨k, hk, rfl⟩ := List.mem_map.mp hw
  have hk := List.mem_range.mp hk
  match k, hk with
  | 0, _ => exact T_2 169 rfl rfl
  | 1, _ => exact T_2 171 rfl rfl
  | 2, _ => exact T_2 173 rfl rfl
  | 3, _ => exact T_2 175 rfl rfl
  | 4, _ => exact T_2 177 rfl rfl
  | k + 5, h => exact absurd h (by omega)
theorem iw_3 : ∀ w ∈ u_ws RX3 TX3 2, w ∈ TT := by
  intro w hw
  obtain ⟨k, hk, rfl⟩ := List.mem_map.mp hw
  have hk := List.mem_range.mp hk
  match k, hk with
  | 0, _ => exact T_1 162 rfl rfl
  | 1, _ => exact T_1 164 rfl rfl
  | k + 2, h => exact absurd h (by omega)
theorem iw_4 : ∀ w ∈ u_ws RX4 TX4 20, w ∈ TT := by
  intro w hw
  obtain ⟨k, hk, rfl⟩ := List.mem_map.mp hw
  have hk := List.mem_range.mp hk
  match k, hk with
  | 0, _ => exact T_2 11 rfl rfl
  | 1, _ => exact T_2 13 rfl rfl
  | 2, _ => exact T_2 15 rfl rfl
  | 3, _ => exact T_2 17 rfl rfl
  | 4, _ => exact T_2 19 rfl rfl
  | 5, _ => exact T_2 21 rfl rfl
  | 6, _ => exact T_2 23 rfl rfl
  | 7, _ => exact T_2 25 rfl rfl
  | 8, _ => exact T_2 27 rfl rfl
  | 9, _ => exact T_2 29 rfl rfl
  | 10, _ => exact T_2 31 rfl rfl
  | 11, _ => exact T_2 33 rfl rfl
  | 12, _ => exact T_2 35 rfl rfl
  | 13, _ => exact T_2 37 rfl rfl
  | 14, _ => exact T_2 39 rfl rfl
  | 15, _ => exact T_2 41 rfl rfl
  | 16, _ => exact T_2 43 rfl rfl
  | 17, _ => exact T_2 45 rfl rfl
  | 18, _ => exact T_2 47 rfl rfl
  | 19, _ => exact T_2 49 rfl rfl
  | k + 20, h => exact absurd h (by omega)
theorem iw_5 : ∀ w ∈ u_ws RX5 TX5 3, w ∈ TT := by
  intro w hw
  obtain ⟨k, hk, rfl⟩ := List.mem_map.mp hw
  have hk := List.mem_range.mp hk
  match k, hk with
  | 0, _ => exact T_1 85 rfl rfl
  | 1, _ => exact T_1 87 rfl rfl
  | 2, _ => exact T_1 89 rfl rfl
  | k + 3, h => exact absurd h (by omega)
theorem iw_6 : ∀ w ∈ u_ws RX6 TX6 4, w ∈ TT := by
  intro w hw
  obtain ⟨k, hk, rfl⟩ := List.mem_map.mp hw
  have hk := List.mem_range.mp hk
  match k, hk with
  | 0, _ => exact T_1 105 rfl rfl
  | 1, _ => exact T_1 107 rfl rfl
  | 2, _ => exact T_1 109 rfl rfl
  | 3, _ => exact T_1 111 rfl rfl
  | k + 4, h => exact absurd h (by omega)
theorem iw_7 : ∀ w ∈ u_ws RX7 TX7 7, w ∈ TT := by
  intro w hw
  obtain ⟨k, hk, rfl⟩ := List.mem_map.mp hw
  have hk := List.mem_range.mp hk
  match k, hk with
  | 0, _ => exact T_1 52 rfl rfl
  | 1, _ => exact T_1 54 rfl rfl
  | 2, _ => exact T_1 56 rfl rfl
  | 3, _ => exact T_1 58 rfl rfl
  | 4, _ => exact T_1 60 rfl rfl
  | 5, _ => exact T_1 62 rfl rfl
  | 6, _ => exact T_1 64 rfl rfl
  | k + 7, h => exact absurd h (by omega)
theorem iw_8 : ∀ w ∈ u_ws RX8 TX8 4, w ∈ TT := by
  intro w hw
  obtain ⟨k, hk, rfl⟩ := List.mem_map.mp hw
  have hk := List.mem_range.mp hk
  match k, hk with
  | 0, _ => exact T_2 143 rfl rfl
  | 1, _ => exact T_2 145 rfl rfl
  | 2, _ => exact T_2 147 rfl rfl
  | 3, _ => exact T_2 149 rfl rfl
  | k + 4, h => exact absurd h (by omega)
theorem iw_9 : ∀ w ∈ u_ws RX9 TX9 7, w ∈ TT := by
  intro w hw
  obtain ⟨k, hk, rfl⟩ := List.mem_map.mp hw
  have hk := List.mem_range.mp hk
  match k, hk with
  | 0, _ => exact T_1 128 rfl rfl
  | 1, _ => exact T_1 130 rfl rfl
  | 2, _ => exact T_1 132 rfl rfl
  | 3, _ => exact T_1 134 rfl rfl
  | 4, _ => exact T_1 136 rfl rfl
  | 5, _ => exact T_1 138 rfl rfl
  | 6, _ => exact T_1 140 rfl rfl
  | k + 7, h => exact absurd h (by omega)
theorem iw_10 : ∀ w ∈ u_ws RX10 TX10 7, w ∈ TT := by
  intro w hw
  obtain ⟨k, hk, rfl⟩ := List.mem_map.mp hw
  have hk := List.mem_range.mp hk
  match k, hk with
  | 0, _ => exact T_2 76 rfl rfl
  | 1, _ => exact T_2 78 rfl rfl
  | 2, _ => exact T_2 80 rfl rfl
  | 3, _ => exact T_2 82 rfl rfl
  | 4, _ => exact T_2 84 rfl rfl
  | 5, _ => exact T_2 86 rfl rfl
  | 6, _ => exact T_2 88 rfl rfl
  | k + 7, h => exact absurd h (by omega)
theorem iw_11 : ∀ w ∈ u_ws RX11 TX11 14, w ∈ TT := by
  intro w hw
  obtain ⟨k, hk, rfl⟩ := List.mem_map.mp hw
  have hk := List.mem_range.mp hk
  match k, hk with
  | 0, _ => exact T_2 194 rfl rfl
  | 1, _ => exact T_2 196 rfl rfl
  | 2, _ => exact T_2 198 rfl rfl
  | 3, _ => exact T_2 200 rfl rfl
  | 4, _ => exact T_2 202 rfl rfl
  | 5, _ => exact T_2 204 rfl rfl
  | 6, _ => exact T_2 206 rfl rfl
  | 7, _ => exact T_2 208 rfl rfl
  | 8, _ => exact T_2 210 rfl rfl
  | 9, _ => exact T_2 212 rfl rfl
  | 10, _ => exact T_2 214 rfl rfl
  | 11, _ => exact T_2 216 rfl rfl
  | 12, _ => exact T_2 218 rfl rfl
  | 13, _ => exact T_2 220 rfl rfl
  | k + 14, h => exact absurd h (by omega)
theorem iw_12 : ∀ w ∈ u_ws RX12 TX12 60, w ∈ TT := by
  intro w hw
  obtain ⟨k, hk, rfl⟩ := List.mem_map.mp hw
  have hk := List.mem_range.mp hk
  match k, hk with
  | 0, _ => exact T_6 231 rfl rfl
  | 1, _ => exact T_6 233 rfl rfl
  | 2, _ => exact T_6 235 rfl rfl
  | 3, _ => exact T_6 237 rfl rfl
  | 4, _ => exact T_6 239 rfl rfl
  | 5, _ => exact T_7 1 rfl rfl
  | 6, _ => exact T_7 3 rfl rfl
  | 7, _ => exact T_7 5 rfl rfl
  | 8, _ => exact T_7 7 rfl rfl
  | 9, _ => exact T_7 9 rfl rfl
  | 10, _ => exact T_7 11 rfl rfl
  | 11, _ => exact T_7 13 rfl rfl
  | 12, _ => exact T_7 15 rfl rfl
  | 13, _ => exact T_7 17 rfl rfl
  | 14, _ => exact T_7 19 rfl rfl
  | 15, _ => exact T_7 21 rfl rfl
  | 16, _ => exact T_7 23 rfl rfl
  | 17, _ => exact T_7 25 rfl rfl
  | 18, _ => exact T_7 27 rfl rfl
  | 19, _ => exact T_7 29 rfl rfl
  | 20, _ => exact T_7 31 rfl rfl
  | 21, _ => exact T_7 33 rfl rfl
  | 22, _ => exact T_7 35 rfl rfl
  | 23, _ => exact T_7 37 rfl rfl
  | 24, _ => exact T_7 39 rfl rfl
  | 25, _ => exact T_7 41 rfl rfl
  | 26, _ => exact T_7 43 rfl rfl
  | 27, _ => exact T_7 45 rfl rfl
  | 28, _ => exact T_7 47 rfl rfl
  | 29, _ => exact T_7 49 rfl rfl
  | 30, _ => exact T_7 51 rfl rfl
  | 31, _ => exact T_7 53 rfl rfl
  | 32, _ => exact T_7 55 rfl rfl
  | 33, _ => exact T_7 57 rfl rfl
  | 34, _ => exact T_7 59 rfl rfl
  | 35, _ => exact T_7 61 rfl rfl
  | 36, _ => exact T_7 63 rfl rfl
  | 37, _ => exact T_7 65 rfl rfl
  | 38, _ => exact T_7 67 rfl rfl
  | 39, _ => exact T_7 69 rfl rfl
  | 40, _ => exact T_7 71 rfl rfl
  | 41, _ => exact T_7 73 rfl rfl
  | 42, _ => exact T_7 75 rfl rfl
  | 43, _ => exact T_7 77 rfl rfl
  | 44, _ => exact T_7 79 rfl rfl
  | 45, _ => exact T_7 81 rfl rfl
  | 46, _ => exact T_7 83 rfl rfl
  | 47, _ => exact T_7 85 rfl rfl
  | 48, _ => exact T_7 87 rfl rfl
  | 49, _ => exact T_7 89 rfl rfl
  | 50, _ => exact T_7 91 rfl rfl
  | 51, _ => exact T_7 93 rfl rfl
  | 52, _ => exact T_7 95 rfl rfl
  | 53, _ => exact T_7 97 rfl rfl
  | 54, _ => exact T_7 99 rfl rfl
  | 55, _ => exact T_7 101 rfl rfl
  | 56, _ => exact T_7 103 rfl rfl
  | 57, _ => exact T_7 105 rfl rfl
  | 58, _ => exact T_7 107 rfl rfl
  | 59, _ => exact T_7 109 rfl rfl
  | k + 60, h => exact absurd h (by omega)
abbrev m_J0_charAt_5068e : mth := (yJ0_charAt_5068e, cJ0_charAt_5068e, 2, some .char)
theorem nh_RJ0 : RJ0 ≠ "java/lang/invoke/MethodHandle" ∧ RJ0 ≠ "java/lang/invoke/VarHandle" := ⟨(by decide +kernel), (by decide +kernel)⟩
theorem ar_J0_charAt_5068e : (parseMethodDescriptor yJ0_charAt_5068e.desc).map (fun d => d.parameters.length) = some 1 := (by decide +kernel)
abbrev m_J0_checkIndex_df160 : mth := (yJ0_checkIndex_df160, cJ0_checkIndex_df160, 2, none)
theorem ar_J0_checkIndex_df160 : (parseMethodDescriptor yJ0_checkIndex_df160.desc).map (fun d => d.parameters.length) = some 2 := (by decide +kernel)
abbrev m_J0_coder_7d493 : mth := (yJ0_coder_7d493, cJ0_coder_7d493, 1, some .byte)
theorem ar_J0_coder_7d493 : (parseMethodDescriptor yJ0_coder_7d493.desc).map (fun d => d.parameters.length) = some 0 := (by decide +kernel)
abbrev m_J0_isLatin1_aae02 : mth := (yJ0_isLatin1_aae02, cJ0_isLatin1_aae02, 1, some .boolean)
theorem ar_J0_isLatin1_aae02 : (parseMethodDescriptor yJ0_isLatin1_aae02.desc).map (fun d => d.parameters.length) = some 0 := (by decide +kernel)
abbrev m_J0_length_8abf5 : mth := (yJ0_length_8abf5, cJ0_length_8abf5, 1, some .int)
theorem ar_J0_length_8abf5 : (parseMethodDescriptor yJ0_length_8abf5.desc).map (fun d => d.parameters.length) = some 0 := (by decide +kernel)
abbrev m_J13_bitCount_95d88 : mth := (yJ13_bitCount_95d88, cJ13_bitCount_95d88, 2, some .int)
theorem nh_RJ13 : RJ13 ≠ "java/lang/invoke/MethodHandle" ∧ RJ13 ≠ "java/lang/invoke/VarHandle" := ⟨(by decide +kernel), (by decide +kernel)⟩
theorem ar_J13_bitCount_95d88 : (parseMethodDescriptor yJ13_bitCount_95d88.desc).map (fun d => d.parameters.length) = some 1 := (by decide +kernel)
abbrev m_J1_charAt_3b067 : mth := (yJ1_charAt_3b067, cJ1_charAt_3b067, 2, some .char)
theorem nh_RJ1 : RJ1 ≠ "java/lang/invoke/MethodHandle" ∧ RJ1 ≠ "java/lang/invoke/VarHandle" := ⟨(by decide +kernel), (by decide +kernel)⟩
theorem ar_J1_charAt_3b067 : (parseMethodDescriptor yJ1_charAt_3b067.desc).map (fun d => d.parameters.length) = some 2 := (by decide +kernel)
abbrev m_J2_charAt_3b067 : mth := (yJ2_charAt_3b067, cJ2_charAt_3b067, 2, some .char)
theorem nh_RJ2 : RJ2 ≠ "java/lang/invoke/MethodHandle" ∧ RJ2 ≠ "java/lang/invoke/VarHandle" := ⟨(by decide +kernel), (by decide +kernel)⟩
theorem ar_J2_charAt_3b067 : (parseMethodDescriptor yJ2_charAt_3b067.desc).map (fun d => d.parameters.length) = some 2 := (by decide +kernel)
abbrev m_J2_checkIndex_2214a : mth := (yJ2_checkIndex_2214a, cJ2_checkIndex_2214a, 2, none)
theorem ar_J2_checkIndex_2214a : (parseMethodDescriptor yJ2_checkIndex_2214a.desc).map (fun d => d.parameters.length) = some 2 := (by decide +kernel)
abbrev m_J2_getChar_3b067 : mth := (yJ2_getChar_3b067, cJ2_getChar_3b067, 2, some .char)
theorem ar_J2_getChar_3b067 : (parseMethodDescriptor yJ2_getChar_3b067.desc).map (fun d => d.parameters.length) = some 2 := (by decide +kernel)
abbrev m_J2_length_9d52b : mth := (yJ2_length_9d52b, cJ2_length_9d52b, 1, some .int)
theorem ar_J2_length_9d52b : (parseMethodDescriptor yJ2_length_9d52b.desc).map (fun d => d.parameters.length) = some 1 := (by decide +kernel)
abbrev m_J3_checkIndex_8e157 : mth := (yJ3_checkIndex_8e157, cJ3_checkIndex_8e157, 3, some .int)
theorem nh_RJ3 : RJ3 ≠ "java/lang/invoke/MethodHandle" ∧ RJ3 ≠ "java/lang/invoke/VarHandle" := ⟨(by decide +kernel), (by decide +kernel)⟩
theorem ar_J3_checkIndex_8e157 : (parseMethodDescriptor yJ3_checkIndex_8e157.desc).map (fun d => d.parameters.length) = some 3 := (by decide +kernel)
abbrev m_J6_compare_7cf53 : mth := (yJ6_compare_7cf53, cJ6_compare_7cf53, 2, some .int)
theorem nh_RJ6 : RJ6 ≠ "java/lang/invoke/MethodHandle" ∧ RJ6 ≠ "java/lang/invoke/VarHandle" := ⟨(by decide +kernel), (by decide +kernel)⟩
theorem ar_J6_compare_7cf53 : (parseMethodDescriptor yJ6_compare_7cf53.desc).map (fun d => d.parameters.length) = some 2 := (by decide +kernel)
abbrev m_J9_max_7cf53 : mth := (yJ9_max_7cf53, cJ9_max_7cf53, 2, some .int)
theorem nh_RJ9 : RJ9 ≠ "java/lang/invoke/MethodHandle" ∧ RJ9 ≠ "java/lang/invoke/VarHandle" := ⟨(by decide +kernel), (by decide +kernel)⟩
theorem ar_J9_max_7cf53 : (parseMethodDescriptor yJ9_max_7cf53.desc).map (fun d => d.parameters.length) = some 2 := (by decide +kernel)
abbrev m_J9_min_7cf53 : mth := (yJ9_min_7cf53, cJ9_min_7cf53, 2, some .int)
theorem ar_J9_min_7cf53 : (parseMethodDescriptor yJ9_min_7cf53.desc).map (fun d => d.parameters.length) = some 2 := (by decide +kernel)
abbrev m_L_asked : mth := (yL_asked, cL_asked, 7, some .int)
theorem nh_RL : RL ≠ "java/lang/invoke/MethodHandle" ∧ RL ≠ "java/lang/invoke/VarHandle" := ⟨(by decide +kernel), (by decide +kernel)⟩
theorem ar_L_asked : (parseMethodDescriptor yL_asked.desc).map (fun d => d.parameters.length) = some 6 := (by decide +kernel)
abbrev m_L_bad : mth := (yL_bad, cL_bad, 6, some .int)
theorem ar_L_bad : (parseMethodDescriptor yL_bad.desc).map (fun d => d.parameters.length) = some 5 := (by decide +kernel)
abbrev m_L_before : mth := (yL_before, cL_before, 5, some .int)
theorem ar_L_before : (parseMethodDescriptor yL_before.desc).map (fun d => d.parameters.length) = some 4 := (by decide +kernel)
abbrev m_L_between : mth := (yL_between, cL_between, 6, some .int)
theorem ar_L_between : (parseMethodDescriptor yL_between.desc).map (fun d => d.parameters.length) = some 5 := (by decide +kernel)
abbrev m_L_bound : mth := (yL_bound, cL_bound, 4, some .int)
theorem ar_L_bound : (parseMethodDescriptor yL_bound.desc).map (fun d => d.parameters.length) = some 3 := (by decide +kernel)
abbrev m_L_drop : mth := (yL_drop, cL_drop, 5, some .int)
theorem ar_L_drop : (parseMethodDescriptor yL_drop.desc).map (fun d => d.parameters.length) = some 4 := (by decide +kernel)
abbrev m_L_gap : mth := (yL_gap, cL_gap, 5, some .int)
theorem ar_L_gap : (parseMethodDescriptor yL_gap.desc).map (fun d => d.parameters.length) = some 4 := (by decide +kernel)
abbrev m_L_has : mth := (yL_has, cL_has, 5, some .int)
theorem ar_L_has : (parseMethodDescriptor yL_has.desc).map (fun d => d.parameters.length) = some 4 := (by decide +kernel)
abbrev m_L_joins : mth := (yL_joins, cL_joins, 6, some .int)
theorem ar_L_joins : (parseMethodDescriptor yL_joins.desc).map (fun d => d.parameters.length) = some 5 := (by decide +kernel)
abbrev m_L_kth : mth := (yL_kth, cL_kth, 5, some .int)
theorem ar_L_kth : (parseMethodDescriptor yL_kth.desc).map (fun d => d.parameters.length) = some 4 := (by decide +kernel)
abbrev m_L_next : mth := (yL_next, cL_next, 5, some .int)
theorem ar_L_next : (parseMethodDescriptor yL_next.desc).map (fun d => d.parameters.length) = some 4 := (by decide +kernel)
abbrev m_L_of : mth := (yL_of, cL_of, 5, some .int)
theorem ar_L_of : (parseMethodDescriptor yL_of.desc).map (fun d => d.parameters.length) = some 4 := (by decide +kernel)
abbrev m_L_put : mth := (yL_put, cL_put, 5, some .int)
theorem ar_L_put : (parseMethodDescriptor yL_put.desc).map (fun d => d.parameters.length) = some 4 := (by decide +kernel)
abbrev m_L_reached : mth := (yL_reached, cL_reached, 4, some .int)
theorem ar_L_reached : (parseMethodDescriptor yL_reached.desc).map (fun d => d.parameters.length) = some 3 := (by decide +kernel)
abbrev m_L_room : mth := (yL_room, cL_room, 5, some .int)
theorem ar_L_room : (parseMethodDescriptor yL_room.desc).map (fun d => d.parameters.length) = some 4 := (by decide +kernel)
abbrev m_L_row : mth := (yL_row, cL_row, 4, some .int)
theorem ar_L_row : (parseMethodDescriptor yL_row.desc).map (fun d => d.parameters.length) = some 3 := (by decide +kernel)
abbrev m_L_rowCall : mth := (yL_rowCall, cL_rowCall, 5, some .int)
theorem ar_L_rowCall : (parseMethodDescriptor yL_rowCall.desc).map (fun d => d.parameters.length) = some 4 := (by decide +kernel)
abbrev m_L_runs : mth := (yL_runs, cL_runs, 5, some .int)
theorem ar_L_runs : (parseMethodDescriptor yL_runs.desc).map (fun d => d.parameters.length) = some 4 := (by decide +kernel)
abbrev m_L_seeds : mth := (yL_seeds, cL_seeds, 8, some .int)
theorem ar_L_seeds : (parseMethodDescriptor yL_seeds.desc).map (fun d => d.parameters.length) = some 7 := (by decide +kernel)
abbrev m_L_shape : mth := (yL_shape, cL_shape, 4, some .int)
theorem ar_L_shape : (parseMethodDescriptor yL_shape.desc).map (fun d => d.parameters.length) = some 3 := (by decide +kernel)
abbrev m_L_since : mth := (yL_since, cL_since, 6, some .int)
theorem ar_L_since : (parseMethodDescriptor yL_since.desc).map (fun d => d.parameters.length) = some 5 := (by decide +kernel)
abbrev m_L_size : mth := (yL_size, cL_size, 5, some .int)
theorem ar_L_size : (parseMethodDescriptor yL_size.desc).map (fun d => d.parameters.length) = some 4 := (by decide +kernel)
abbrev m_L_split : mth := (yL_split, cL_split, 6, some .int)
theorem ar_L_split : (parseMethodDescriptor yL_split.desc).map (fun d => d.parameters.length) = some 5 := (by decide +kernel)
abbrev m_L_steals : mth := (yL_steals, cL_steals, 7, some .int)
theorem ar_L_steals : (parseMethodDescriptor yL_steals.desc).map (fun d => d.parameters.length) = some 6 := (by decide +kernel)
abbrev m_L_thief : mth := (yL_thief, cL_thief, 4, some .int)
theorem ar_L_thief : (parseMethodDescriptor yL_thief.desc).map (fun d => d.parameters.length) = some 3 := (by decide +kernel)
abbrev m_L_told : mth := (yL_told, cL_told, 4, some .int)
theorem ar_L_told : (parseMethodDescriptor yL_told.desc).map (fun d => d.parameters.length) = some 3 := (by decide +kernel)
abbrev m_L_touches : mth := (yL_touches, cL_touches, 7, some .int)
theorem ar_L_touches : (parseMethodDescriptor yL_touches.desc).map (fun d => d.parameters.length) = some 6 := (by decide +kernel)
abbrev m_L_was : mth := (yL_was, cL_was, 6, some .int)
theorem ar_L_was : (parseMethodDescriptor yL_was.desc).map (fun d => d.parameters.length) = some 5 := (by decide +kernel)
abbrev m_L_worst : mth := (yL_worst, cL_worst, 6, some .int)
theorem ar_L_worst : (parseMethodDescriptor yL_worst.desc).map (fun d => d.parameters.length) = some 5 := (by decide +kernel)
abbrev m_X0_callAt : mth := (yX0_callAt, cX0_callAt, 3, some .int)
theorem nh_RX0 : RX0 ≠ "java/lang/invoke/MethodHandle" ∧ RX0 ≠ "java/lang/invoke/VarHandle" := ⟨(by decide +kernel), (by decide +kernel)⟩
theorem ar_X0_callAt : (parseMethodDescriptor yX0_callAt.desc).map (fun d => d.parameters.length) = some 2 := (by decide +kernel)
abbrev m_X0_find : mth := (yX0_find, cX0_find, 6, some .boolean)
theorem ar_X0_find : (parseMethodDescriptor yX0_find.desc).map (fun d => d.parameters.length) = some 2 := (by decide +kernel)
abbrev m_X0_findBehind : mth := (yX0_findBehind, cX0_findBehind, 9, some .boolean)
theorem ar_X0_findBehind : (parseMethodDescriptor yX0_findBehind.desc).map (fun d => d.parameters.length) = some 4 := (by decide +kernel)
abbrev m_X0_forget : mth := (yX0_forget, cX0_forget, 1, none)
theorem ar_X0_forget : (parseMethodDescriptor yX0_forget.desc).map (fun d => d.parameters.length) = some 0 := (by decide +kernel)
abbrev m_X0_init : mth := (yX0_init, cX0_init, 2, none)
theorem ar_X0_init : (parseMethodDescriptor yX0_init.desc).map (fun d => d.parameters.length) = some 1 := (by decide +kernel)
abbrev m_X0_learn : mth := (yX0_learn, cX0_learn, 3, some .int)
theorem ar_X0_learn : (parseMethodDescriptor yX0_learn.desc).map (fun d => d.parameters.length) = some 1 := (by decide +kernel)
abbrev m_X0_limitOf : mth := (yX0_limitOf, cX0_limitOf, 7, some .int)
theorem ar_X0_limitOf : (parseMethodDescriptor yX0_limitOf.desc).map (fun d => d.parameters.length) = some 3 := (by decide +kernel)
abbrev m_X0_setLimits : mth := (yX0_setLimits, cX0_setLimits, 4, none)
theorem ar_X0_setLimits : (parseMethodDescriptor yX0_setLimits.desc).map (fun d => d.parameters.length) = some 0 := (by decide +kernel)
abbrev m_X10_bitsOfSet : mth := (yX10_bitsOfSet, cX10_bitsOfSet, 4, some .long)
theorem nh_RX10 : RX10 ≠ "java/lang/invoke/MethodHandle" ∧ RX10 ≠ "java/lang/invoke/VarHandle" := ⟨(by decide +kernel), (by decide +kernel)⟩
theorem ar_X10_bitsOfSet : (parseMethodDescriptor yX10_bitsOfSet.desc).map (fun d => d.parameters.length) = some 0 := (by decide +kernel)
abbrev m_X10_forget : mth := (yX10_forget, cX10_forget, 2, none)
theorem ar_X10_forget : (parseMethodDescriptor yX10_forget.desc).map (fun d => d.parameters.length) = some 0 := (by decide +kernel)
abbrev m_X10_goThroughAll : mth := (yX10_goThroughAll, cX10_goThroughAll, 7, none)
theorem ar_X10_goThroughAll : (parseMethodDescriptor yX10_goThroughAll.desc).map (fun d => d.parameters.length) = some 2 := (by decide +kernel)
abbrev m_X10_init : mth := (yX10_init, cX10_init, 2, none)
theorem ar_X10_init : (parseMethodDescriptor yX10_init.desc).map (fun d => d.parameters.length) = some 1 := (by decide +kernel)
abbrev m_X10_learn : mth := (yX10_learn, cX10_learn, 4, none)
theorem ar_X10_learn : (parseMethodDescriptor yX10_learn.desc).map (fun d => d.parameters.length) = some 2 := (by decide +kernel)
abbrev m_X10_member : mth := (yX10_member, cX10_member, 6, some .int)
theorem ar_X10_member : (parseMethodDescriptor yX10_member.desc).map (fun d => d.parameters.length) = some 3 := (by decide +kernel)
abbrev m_X10_tryAll : mth := (yX10_tryAll, cX10_tryAll, 5, none)
theorem ar_X10_tryAll : (parseMethodDescriptor yX10_tryAll.desc).map (fun d => d.parameters.length) = some 2 := (by decide +kernel)
abbrev m_X11_asked : mth := (yX11_asked, cX11_asked, 5, some .int)
theorem nh_RX11 : RX11 ≠ "java/lang/invoke/MethodHandle" ∧ RX11 ≠ "java/lang/invoke/VarHandle" := ⟨(by decide +kernel), (by decide +kernel)⟩
theorem ar_X11_asked : (parseMethodDescriptor yX11_asked.desc).map (fun d => d.parameters.length) = some 4 := (by decide +kernel)
abbrev m_X11_bad : mth := (yX11_bad, cX11_bad, 4, some .int)
theorem ar_X11_bad : (parseMethodDescriptor yX11_bad.desc).map (fun d => d.parameters.length) = some 3 := (by decide +kernel)
abbrev m_X11_before : mth := (yX11_before, cX11_before, 3, some .int)
theorem ar_X11_before : (parseMethodDescriptor yX11_before.desc).map (fun d => d.parameters.length) = some 2 := (by decide +kernel)
abbrev m_X11_between : mth := (yX11_between, cX11_between, 5, some .int)
theorem ar_X11_between : (parseMethodDescriptor yX11_between.desc).map (fun d => d.parameters.length) = some 3 := (by decide +kernel)
abbrev m_X11_bound : mth := (yX11_bound, cX11_bound, 2, some .int)
theorem ar_X11_bound : (parseMethodDescriptor yX11_bound.desc).map (fun d => d.parameters.length) = some 1 := (by decide +kernel)
abbrev m_X11_count : mth := (yX11_count, cX11_count, 4, some .int)
theorem ar_X11_count : (parseMethodDescriptor yX11_count.desc).map (fun d => d.parameters.length) = some 1 := (by decide +kernel)
abbrev m_X11_drop : mth := (yX11_drop, cX11_drop, 3, some .int)
theorem ar_X11_drop : (parseMethodDescriptor yX11_drop.desc).map (fun d => d.parameters.length) = some 2 := (by decide +kernel)
abbrev m_X11_fault : mth := (yX11_fault, cX11_fault, 1, some .int)
theorem ar_X11_fault : (parseMethodDescriptor yX11_fault.desc).map (fun d => d.parameters.length) = some 0 := (by decide +kernel)
abbrev m_X11_feed : mth := (yX11_feed, cX11_feed, 6, some .int)
theorem ar_X11_feed : (parseMethodDescriptor yX11_feed.desc).map (fun d => d.parameters.length) = some 5 := (by decide +kernel)
abbrev m_X11_gap : mth := (yX11_gap, cX11_gap, 5, some .int)
theorem ar_X11_gap : (parseMethodDescriptor yX11_gap.desc).map (fun d => d.parameters.length) = some 2 := (by decide +kernel)
abbrev m_X11_has : mth := (yX11_has, cX11_has, 3, some .boolean)
theorem ar_X11_has : (parseMethodDescriptor yX11_has.desc).map (fun d => d.parameters.length) = some 2 := (by decide +kernel)
abbrev m_X11_image : mth := (yX11_image, cX11_image, 2, some .int)
theorem ar_X11_image : (parseMethodDescriptor yX11_image.desc).map (fun d => d.parameters.length) = some 0 := (by decide +kernel)
abbrev m_X11_init : mth := (yX11_init, cX11_init, 2, none)
theorem ar_X11_init : (parseMethodDescriptor yX11_init.desc).map (fun d => d.parameters.length) = some 0 := (by decide +kernel)
abbrev m_X11_isCall : mth := (yX11_isCall, cX11_isCall, 1, some .boolean)
theorem ar_X11_isCall : (parseMethodDescriptor yX11_isCall.desc).map (fun d => d.parameters.length) = some 1 := (by decide +kernel)
abbrev m_X11_isKind : mth := (yX11_isKind, cX11_isKind, 1, some .boolean)
theorem ar_X11_isKind : (parseMethodDescriptor yX11_isKind.desc).map (fun d => d.parameters.length) = some 1 := (by decide +kernel)
abbrev m_X11_isNumber : mth := (yX11_isNumber, cX11_isNumber, 2, some .boolean)
theorem ar_X11_isNumber : (parseMethodDescriptor yX11_isNumber.desc).map (fun d => d.parameters.length) = some 1 := (by decide +kernel)
abbrev m_X11_joins : mth := (yX11_joins, cX11_joins, 10, some .int)
theorem ar_X11_joins : (parseMethodDescriptor yX11_joins.desc).map (fun d => d.parameters.length) = some 3 := (by decide +kernel)
abbrev m_X11_kth : mth := (yX11_kth, cX11_kth, 3, some .int)
theorem ar_X11_kth : (parseMethodDescriptor yX11_kth.desc).map (fun d => d.parameters.length) = some 2 := (by decide +kernel)
abbrev m_X11_mayAsk : mth := (yX11_mayAsk, cX11_mayAsk, 3, some .boolean)
theorem ar_X11_mayAsk : (parseMethodDescriptor yX11_mayAsk.desc).map (fun d => d.parameters.length) = some 2 := (by decide +kernel)
abbrev m_X11_mayGoThroughAll : mth := (yX11_mayGoThroughAll, cX11_mayGoThroughAll, 3, some .boolean)
theorem ar_X11_mayGoThroughAll : (parseMethodDescriptor yX11_mayGoThroughAll.desc).map (fun d => d.parameters.length) = some 2 := (by decide +kernel)
abbrev m_X11_need : mth := (yX11_need, cX11_need, 2, none)
theorem ar_X11_need : (parseMethodDescriptor yX11_need.desc).map (fun d => d.parameters.length) = some 1 := (by decide +kernel)
abbrev m_X11_needHouse : mth := (yX11_needHouse, cX11_needHouse, 2, none)
theorem ar_X11_needHouse : (parseMethodDescriptor yX11_needHouse.desc).map (fun d => d.parameters.length) = some 1 := (by decide +kernel)
abbrev m_X11_needNumber : mth := (yX11_needNumber, cX11_needNumber, 2, none)
theorem ar_X11_needNumber : (parseMethodDescriptor yX11_needNumber.desc).map (fun d => d.parameters.length) = some 1 := (by decide +kernel)
abbrev m_X11_needThief : mth := (yX11_needThief, cX11_needThief, 2, none)
theorem ar_X11_needThief : (parseMethodDescriptor yX11_needThief.desc).map (fun d => d.parameters.length) = some 1 := (by decide +kernel)
abbrev m_X11_next : mth := (yX11_next, cX11_next, 3, some .int)
theorem ar_X11_next : (parseMethodDescriptor yX11_next.desc).map (fun d => d.parameters.length) = some 2 := (by decide +kernel)
abbrev m_X11_of : mth := (yX11_of, cX11_of, 3, some .int)
theorem ar_X11_of : (parseMethodDescriptor yX11_of.desc).map (fun d => d.parameters.length) = some 2 := (by decide +kernel)
abbrev m_X11_put : mth := (yX11_put, cX11_put, 3, some .int)
theorem ar_X11_put : (parseMethodDescriptor yX11_put.desc).map (fun d => d.parameters.length) = some 2 := (by decide +kernel)
abbrev m_X11_reached : mth := (yX11_reached, cX11_reached, 4, some .int)
theorem ar_X11_reached : (parseMethodDescriptor yX11_reached.desc).map (fun d => d.parameters.length) = some 1 := (by decide +kernel)
abbrev m_X11_restore : mth := (yX11_restore, cX11_restore, 2, some .int)
theorem ar_X11_restore : (parseMethodDescriptor yX11_restore.desc).map (fun d => d.parameters.length) = some 0 := (by decide +kernel)
abbrev m_X11_room : mth := (yX11_room, cX11_room, 3, some .int)
theorem ar_X11_room : (parseMethodDescriptor yX11_room.desc).map (fun d => d.parameters.length) = some 2 := (by decide +kernel)
abbrev m_X11_row : mth := (yX11_row, cX11_row, 2, some .int)
theorem ar_X11_row : (parseMethodDescriptor yX11_row.desc).map (fun d => d.parameters.length) = some 1 := (by decide +kernel)
abbrev m_X11_rowCall : mth := (yX11_rowCall, cX11_rowCall, 3, some .int)
theorem ar_X11_rowCall : (parseMethodDescriptor yX11_rowCall.desc).map (fun d => d.parameters.length) = some 2 := (by decide +kernel)
abbrev m_X11_runs : mth := (yX11_runs, cX11_runs, 3, some .int)
theorem ar_X11_runs : (parseMethodDescriptor yX11_runs.desc).map (fun d => d.parameters.length) = some 2 := (by decide +kernel)
abbrev m_X11_seeds : mth := (yX11_seeds, cX11_seeds, 10, some .int)
theorem ar_X11_seeds : (parseMethodDescriptor yX11_seeds.desc).map (fun d => d.parameters.length) = some 5 := (by decide +kernel)
abbrev m_X11_shape : mth := (yX11_shape, cX11_shape, 3, some .int)
theorem ar_X11_shape : (parseMethodDescriptor yX11_shape.desc).map (fun d => d.parameters.length) = some 1 := (by decide +kernel)
abbrev m_X11_since : mth := (yX11_since, cX11_since, 4, some .int)
theorem ar_X11_since : (parseMethodDescriptor yX11_since.desc).map (fun d => d.parameters.length) = some 3 := (by decide +kernel)
abbrev m_X11_size : mth := (yX11_size, cX11_size, 3, some .int)
theorem ar_X11_size : (parseMethodDescriptor yX11_size.desc).map (fun d => d.parameters.length) = some 2 := (by decide +kernel)
abbrev m_X11_split : mth := (yX11_split, cX11_split, 12, some .int)
theorem ar_X11_split : (parseMethodDescriptor yX11_split.desc).map (fun d => d.parameters.length) = some 3 := (by decide +kernel)
abbrev m_X11_status : mth := (yX11_status, cX11_status, 2, some .int)
theorem ar_X11_status : (parseMethodDescriptor yX11_status.desc).map (fun d => d.parameters.length) = some 1 := (by decide +kernel)
abbrev m_X11_steals : mth := (yX11_steals, cX11_steals, 5, some .int)
theorem ar_X11_steals : (parseMethodDescriptor yX11_steals.desc).map (fun d => d.parameters.length) = some 4 := (by decide +kernel)
abbrev m_X11_thief : mth := (yX11_thief, cX11_thief, 2, some .int)
theorem ar_X11_thief : (parseMethodDescriptor yX11_thief.desc).map (fun d => d.parameters.length) = some 1 := (by decide +kernel)
abbrev m_X11_told : mth := (yX11_told, cX11_told, 2, some .int)
theorem ar_X11_told : (parseMethodDescriptor yX11_told.desc).map (fun d => d.parameters.length) = some 1 := (by decide +kernel)
abbrev m_X11_touches : mth := (yX11_touches, cX11_touches, 6, some .int)
theorem ar_X11_touches : (parseMethodDescriptor yX11_touches.desc).map (fun d => d.parameters.length) = some 4 := (by decide +kernel)
abbrev m_X11_was : mth := (yX11_was, cX11_was, 4, some .int)
theorem ar_X11_was : (parseMethodDescriptor yX11_was.desc).map (fun d => d.parameters.length) = some 3 := (by decide +kernel)
abbrev m_X11_worst : mth := (yX11_worst, cX11_worst, 4, some .int)
theorem ar_X11_worst : (parseMethodDescriptor yX11_worst.desc).map (fun d => d.parameters.length) = some 3 := (by decide +kernel)
abbrev m_X12_all : mth := (yX12_all, cX12_all, 1, some .int)
theorem nh_RX12 : RX12 ≠ "java/lang/invoke/MethodHandle" ∧ RX12 ≠ "java/lang/invoke/VarHandle" := ⟨(by decide +kernel), (by decide +kernel)⟩
theorem ar_X12_all : (parseMethodDescriptor yX12_all.desc).map (fun d => d.parameters.length) = some 0 := (by decide +kernel)
abbrev m_X12_answer : mth := (yX12_answer, cX12_answer, 4, some .int)
theorem ar_X12_answer : (parseMethodDescriptor yX12_answer.desc).map (fun d => d.parameters.length) = some 3 := (by decide +kernel)
abbrev m_X12_asked : mth := (yX12_asked, cX12_asked, 6, some .int)
theorem ar_X12_asked : (parseMethodDescriptor yX12_asked.desc).map (fun d => d.parameters.length) = some 4 := (by decide +kernel)
abbrev m_X12_asks : mth := (yX12_asks, cX12_asks, 6, none)
theorem ar_X12_asks : (parseMethodDescriptor yX12_asks.desc).map (fun d => d.parameters.length) = some 2 := (by decide +kernel)
abbrev m_X12_bad : mth := (yX12_bad, cX12_bad, 4, some .int)
theorem ar_X12_bad : (parseMethodDescriptor yX12_bad.desc).map (fun d => d.parameters.length) = some 3 := (by decide +kernel)
abbrev m_X12_before : mth := (yX12_before, cX12_before, 3, some .int)
theorem ar_X12_before : (parseMethodDescriptor yX12_before.desc).map (fun d => d.parameters.length) = some 2 := (by decide +kernel)
abbrev m_X12_begins : mth := (yX12_begins, cX12_begins, 2, none)
theorem ar_X12_begins : (parseMethodDescriptor yX12_begins.desc).map (fun d => d.parameters.length) = some 1 := (by decide +kernel)
abbrev m_X12_behind : mth := (yX12_behind, cX12_behind, 4, some .int)
theorem ar_X12_behind : (parseMethodDescriptor yX12_behind.desc).map (fun d => d.parameters.length) = some 3 := (by decide +kernel)
abbrev m_X12_between : mth := (yX12_between, cX12_between, 4, some .int)
theorem ar_X12_between : (parseMethodDescriptor yX12_between.desc).map (fun d => d.parameters.length) = some 3 := (by decide +kernel)
abbrev m_X12_bits : mth := (yX12_bits, cX12_bits, 7, some .int)
theorem ar_X12_bits : (parseMethodDescriptor yX12_bits.desc).map (fun d => d.parameters.length) = some 3 := (by decide +kernel)
abbrev m_X12_bound : mth := (yX12_bound, cX12_bound, 2, some .int)
theorem ar_X12_bound : (parseMethodDescriptor yX12_bound.desc).map (fun d => d.parameters.length) = some 1 := (by decide +kernel)
abbrev m_X12_boundOf : mth := (yX12_boundOf, cX12_boundOf, 6, some .int)
theorem ar_X12_boundOf : (parseMethodDescriptor yX12_boundOf.desc).map (fun d => d.parameters.length) = some 2 := (by decide +kernel)
abbrev m_X12_calls : mth := (yX12_calls, cX12_calls, 6, some .int)
theorem ar_X12_calls : (parseMethodDescriptor yX12_calls.desc).map (fun d => d.parameters.length) = some 3 := (by decide +kernel)
abbrev m_X12_cellsOf : mth := (yX12_cellsOf, cX12_cellsOf, 9, some .int)
theorem ar_X12_cellsOf : (parseMethodDescriptor yX12_cellsOf.desc).map (fun d => d.parameters.length) = some 3 := (by decide +kernel)
abbrev m_X12_changes : mth := (yX12_changes, cX12_changes, 4, none)
theorem ar_X12_changes : (parseMethodDescriptor yX12_changes.desc).map (fun d => d.parameters.length) = some 2 := (by decide +kernel)
abbrev m_X12_comes : mth := (yX12_comes, cX12_comes, 5, none)
theorem ar_X12_comes : (parseMethodDescriptor yX12_comes.desc).map (fun d => d.parameters.length) = some 2 := (by decide +kernel)
abbrev m_X12_comesBack : mth := (yX12_comesBack, cX12_comesBack, 3, none)
theorem ar_X12_comesBack : (parseMethodDescriptor yX12_comesBack.desc).map (fun d => d.parameters.length) = some 1 := (by decide +kernel)
abbrev m_X12_count : mth := (yX12_count, cX12_count, 2, some .int)
theorem ar_X12_count : (parseMethodDescriptor yX12_count.desc).map (fun d => d.parameters.length) = some 1 := (by decide +kernel)
abbrev m_X12_drop : mth := (yX12_drop, cX12_drop, 3, some .int)
theorem ar_X12_drop : (parseMethodDescriptor yX12_drop.desc).map (fun d => d.parameters.length) = some 2 := (by decide +kernel)
abbrev m_X12_emit : mth := (yX12_emit, cX12_emit, 3, none)
theorem ar_X12_emit : (parseMethodDescriptor yX12_emit.desc).map (fun d => d.parameters.length) = some 2 := (by decide +kernel)
abbrev m_X12_fault : mth := (yX12_fault, cX12_fault, 1, some .int)
theorem ar_X12_fault : (parseMethodDescriptor yX12_fault.desc).map (fun d => d.parameters.length) = some 0 := (by decide +kernel)
abbrev m_X12_feed : mth := (yX12_feed, cX12_feed, 8, some .int)
theorem ar_X12_feed : (parseMethodDescriptor yX12_feed.desc).map (fun d => d.parameters.length) = some 5 := (by decide +kernel)
abbrev m_X12_findRow : mth := (yX12_findRow, cX12_findRow, 8, none)
theorem ar_X12_findRow : (parseMethodDescriptor yX12_findRow.desc).map (fun d => d.parameters.length) = some 1 := (by decide +kernel)
abbrev m_X12_findTwo : mth := (yX12_findTwo, cX12_findTwo, 5, none)
theorem ar_X12_findTwo : (parseMethodDescriptor yX12_findTwo.desc).map (fun d => d.parameters.length) = some 1 := (by decide +kernel)
abbrev m_X12_findWorst : mth := (yX12_findWorst, cX12_findWorst, 4, none)
theorem ar_X12_findWorst : (parseMethodDescriptor yX12_findWorst.desc).map (fun d => d.parameters.length) = some 2 := (by decide +kernel)
abbrev m_X12_fine : mth := (yX12_fine, cX12_fine, 1, some .boolean)
theorem ar_X12_fine : (parseMethodDescriptor yX12_fine.desc).map (fun d => d.parameters.length) = some 0 := (by decide +kernel)
abbrev m_X12_gap : mth := (yX12_gap, cX12_gap, 7, some .int)
theorem ar_X12_gap : (parseMethodDescriptor yX12_gap.desc).map (fun d => d.parameters.length) = some 2 := (by decide +kernel)
abbrev m_X12_goes : mth := (yX12_goes, cX12_goes, 8, some .boolean)
theorem ar_X12_goes : (parseMethodDescriptor yX12_goes.desc).map (fun d => d.parameters.length) = some 4 := (by decide +kernel)
abbrev m_X12_goesTo : mth := (yX12_goesTo, cX12_goesTo, 4, none)
theorem ar_X12_goesTo : (parseMethodDescriptor yX12_goesTo.desc).map (fun d => d.parameters.length) = some 2 := (by decide +kernel)
abbrev m_X12_halves : mth := (yX12_halves, cX12_halves, 4, some .int)
theorem ar_X12_halves : (parseMethodDescriptor yX12_halves.desc).map (fun d => d.parameters.length) = some 3 := (by decide +kernel)
abbrev m_X12_has : mth := (yX12_has, cX12_has, 3, some .boolean)
theorem ar_X12_has : (parseMethodDescriptor yX12_has.desc).map (fun d => d.parameters.length) = some 2 := (by decide +kernel)
abbrev m_X12_hasIn : mth := (yX12_hasIn, cX12_hasIn, 4, some .boolean)
theorem ar_X12_hasIn : (parseMethodDescriptor yX12_hasIn.desc).map (fun d => d.parameters.length) = some 3 := (by decide +kernel)
abbrev m_X12_here : mth := (yX12_here, cX12_here, 1, some .int)
theorem ar_X12_here : (parseMethodDescriptor yX12_here.desc).map (fun d => d.parameters.length) = some 0 := (by decide +kernel)
abbrev m_X12_image : mth := (yX12_image, cX12_image, 2, some .int)
theorem ar_X12_image : (parseMethodDescriptor yX12_image.desc).map (fun d => d.parameters.length) = some 0 := (by decide +kernel)
abbrev m_X12_inList : mth := (yX12_inList, cX12_inList, 9, some .int)
theorem ar_X12_inList : (parseMethodDescriptor yX12_inList.desc).map (fun d => d.parameters.length) = some 5 := (by decide +kernel)
abbrev m_X12_inRoom : mth := (yX12_inRoom, cX12_inRoom, 9, some .int)
theorem ar_X12_inRoom : (parseMethodDescriptor yX12_inRoom.desc).map (fun d => d.parameters.length) = some 5 := (by decide +kernel)
abbrev m_X12_init : mth := (yX12_init, cX12_init, 1, none)
theorem ar_X12_init : (parseMethodDescriptor yX12_init.desc).map (fun d => d.parameters.length) = some 0 := (by decide +kernel)
abbrev m_X12_isCall : mth := (yX12_isCall, cX12_isCall, 1, some .boolean)
theorem ar_X12_isCall : (parseMethodDescriptor yX12_isCall.desc).map (fun d => d.parameters.length) = some 1 := (by decide +kernel)
abbrev m_X12_isDigit : mth := (yX12_isDigit, cX12_isDigit, 1, some .boolean)
theorem ar_X12_isDigit : (parseMethodDescriptor yX12_isDigit.desc).map (fun d => d.parameters.length) = some 1 := (by decide +kernel)
abbrev m_X12_isHouse : mth := (yX12_isHouse, cX12_isHouse, 3, some .boolean)
theorem ar_X12_isHouse : (parseMethodDescriptor yX12_isHouse.desc).map (fun d => d.parameters.length) = some 2 := (by decide +kernel)
abbrev m_X12_isInside : mth := (yX12_isInside, cX12_isInside, 5, some .boolean)
theorem ar_X12_isInside : (parseMethodDescriptor yX12_isInside.desc).map (fun d => d.parameters.length) = some 3 := (by decide +kernel)
abbrev m_X12_isMore : mth := (yX12_isMore, cX12_isMore, 1, some .boolean)
theorem ar_X12_isMore : (parseMethodDescriptor yX12_isMore.desc).map (fun d => d.parameters.length) = some 0 := (by decide +kernel)
abbrev m_X12_isNumber : mth := (yX12_isNumber, cX12_isNumber, 2, some .boolean)
theorem ar_X12_isNumber : (parseMethodDescriptor yX12_isNumber.desc).map (fun d => d.parameters.length) = some 1 := (by decide +kernel)
abbrev m_X12_isRow : mth := (yX12_isRow, cX12_isRow, 2, some .boolean)
theorem ar_X12_isRow : (parseMethodDescriptor yX12_isRow.desc).map (fun d => d.parameters.length) = some 1 := (by decide +kernel)
abbrev m_X12_isSmall : mth := (yX12_isSmall, cX12_isSmall, 1, some .boolean)
theorem ar_X12_isSmall : (parseMethodDescriptor yX12_isSmall.desc).map (fun d => d.parameters.length) = some 1 := (by decide +kernel)
abbrev m_X12_isThere : mth := (yX12_isThere, cX12_isThere, 4, some .boolean)
theorem ar_X12_isThere : (parseMethodDescriptor yX12_isThere.desc).map (fun d => d.parameters.length) = some 2 := (by decide +kernel)
abbrev m_X12_isThief : mth := (yX12_isThief, cX12_isThief, 2, some .boolean)
theorem ar_X12_isThief : (parseMethodDescriptor yX12_isThief.desc).map (fun d => d.parameters.length) = some 1 := (by decide +kernel)
abbrev m_X12_isTime : mth := (yX12_isTime, cX12_isTime, 3, some .boolean)
theorem ar_X12_isTime : (parseMethodDescriptor yX12_isTime.desc).map (fun d => d.parameters.length) = some 2 := (by decide +kernel)
abbrev m_X12_isWorst : mth := (yX12_isWorst, cX12_isWorst, 2, some .boolean)
theorem ar_X12_isWorst : (parseMethodDescriptor yX12_isWorst.desc).map (fun d => d.parameters.length) = some 1 := (by decide +kernel)
abbrev m_X12_joins : mth := (yX12_joins, cX12_joins, 10, some .int)
theorem ar_X12_joins : (parseMethodDescriptor yX12_joins.desc).map (fun d => d.parameters.length) = some 3 := (by decide +kernel)
abbrev m_X12_keeps : mth := (yX12_keeps, cX12_keeps, 3, none)
theorem ar_X12_keeps : (parseMethodDescriptor yX12_keeps.desc).map (fun d => d.parameters.length) = some 1 := (by decide +kernel)
abbrev m_X12_kth : mth := (yX12_kth, cX12_kth, 3, some .int)
theorem ar_X12_kth : (parseMethodDescriptor yX12_kth.desc).map (fun d => d.parameters.length) = some 2 := (by decide +kernel)
abbrev m_X12_lays : mth := (yX12_lays, cX12_lays, 3, none)
theorem ar_X12_lays : (parseMethodDescriptor yX12_lays.desc).map (fun d => d.parameters.length) = some 1 := (by decide +kernel)
abbrev m_X12_leaves : mth := (yX12_leaves, cX12_leaves, 4, none)
theorem ar_X12_leaves : (parseMethodDescriptor yX12_leaves.desc).map (fun d => d.parameters.length) = some 2 := (by decide +kernel)
abbrev m_X12_lists : mth := (yX12_lists, cX12_lists, 7, some .int)
theorem ar_X12_lists : (parseMethodDescriptor yX12_lists.desc).map (fun d => d.parameters.length) = some 3 := (by decide +kernel)
abbrev m_X12_lowerBits : mth := (yX12_lowerBits, cX12_lowerBits, 2, some .int)
theorem ar_X12_lowerBits : (parseMethodDescriptor yX12_lowerBits.desc).map (fun d => d.parameters.length) = some 1 := (by decide +kernel)
abbrev m_X12_may : mth := (yX12_may, cX12_may, 4, some .boolean)
theorem ar_X12_may : (parseMethodDescriptor yX12_may.desc).map (fun d => d.parameters.length) = some 3 := (by decide +kernel)
abbrev m_X12_mayAsk : mth := (yX12_mayAsk, cX12_mayAsk, 3, some .boolean)
theorem ar_X12_mayAsk : (parseMethodDescriptor yX12_mayAsk.desc).map (fun d => d.parameters.length) = some 2 := (by decide +kernel)
abbrev m_X12_mostSet : mth := (yX12_mostSet, cX12_mostSet, 1, some .int)
theorem ar_X12_mostSet : (parseMethodDescriptor yX12_mostSet.desc).map (fun d => d.parameters.length) = some 0 := (by decide +kernel)
abbrev m_X12_next : mth := (yX12_next, cX12_next, 3, some .int)
theorem ar_X12_next : (parseMethodDescriptor yX12_next.desc).map (fun d => d.parameters.length) = some 2 := (by decide +kernel)
abbrev m_X12_notesDown : mth := (yX12_notesDown, cX12_notesDown, 4, none)
theorem ar_X12_notesDown : (parseMethodDescriptor yX12_notesDown.desc).map (fun d => d.parameters.length) = some 3 := (by decide +kernel)
abbrev m_X12_numberAt : mth := (yX12_numberAt, cX12_numberAt, 3, some .int)
theorem ar_X12_numberAt : (parseMethodDescriptor yX12_numberAt.desc).map (fun d => d.parameters.length) = some 2 := (by decide +kernel)
abbrev m_X12_of : mth := (yX12_of, cX12_of, 3, some .int)
theorem ar_X12_of : (parseMethodDescriptor yX12_of.desc).map (fun d => d.parameters.length) = some 1 := (by decide +kernel)
abbrev m_X12_of_ : mth := (yX12_of_, cX12_of_, 3, some .int)
theorem ar_X12_of_ : (parseMethodDescriptor yX12_of_.desc).map (fun d => d.parameters.length) = some 2 := (by decide +kernel)
abbrev m_X12_ones : mth := (yX12_ones, cX12_ones, 3, some .int)
theorem ar_X12_ones : (parseMethodDescriptor yX12_ones.desc).map (fun d => d.parameters.length) = some 1 := (by decide +kernel)
abbrev m_X12_pass : mth := (yX12_pass, cX12_pass, 1, none)
theorem ar_X12_pass : (parseMethodDescriptor yX12_pass.desc).map (fun d => d.parameters.length) = some 0 := (by decide +kernel)
abbrev m_X12_place : mth := (yX12_place, cX12_place, 6, some .int)
theorem ar_X12_place : (parseMethodDescriptor yX12_place.desc).map (fun d => d.parameters.length) = some 2 := (by decide +kernel)
abbrev m_X12_product : mth := (yX12_product, cX12_product, 2, none)
theorem ar_X12_product : (parseMethodDescriptor yX12_product.desc).map (fun d => d.parameters.length) = some 0 := (by decide +kernel)
abbrev m_X12_put : mth := (yX12_put, cX12_put, 3, some .int)
theorem ar_X12_put : (parseMethodDescriptor yX12_put.desc).map (fun d => d.parameters.length) = some 2 := (by decide +kernel)
abbrev m_X12_reached : mth := (yX12_reached, cX12_reached, 2, some .int)
theorem ar_X12_reached : (parseMethodDescriptor yX12_reached.desc).map (fun d => d.parameters.length) = some 1 := (by decide +kernel)
abbrev m_X12_readNumber : mth := (yX12_readNumber, cX12_readNumber, 6, some .int)
theorem ar_X12_readNumber : (parseMethodDescriptor yX12_readNumber.desc).map (fun d => d.parameters.length) = some 2 := (by decide +kernel)
abbrev m_X12_readSteps : mth := (yX12_readSteps, cX12_readSteps, 3, none)
theorem ar_X12_readSteps : (parseMethodDescriptor yX12_readSteps.desc).map (fun d => d.parameters.length) = some 0 := (by decide +kernel)
abbrev m_X12_restore : mth := (yX12_restore, cX12_restore, 2, some .int)
theorem ar_X12_restore : (parseMethodDescriptor yX12_restore.desc).map (fun d => d.parameters.length) = some 0 := (by decide +kernel)
abbrev m_X12_result : mth := (yX12_result, cX12_result, 2, some .int)
theorem ar_X12_result : (parseMethodDescriptor yX12_result.desc).map (fun d => d.parameters.length) = some 1 := (by decide +kernel)
abbrev m_X12_room : mth := (yX12_room, cX12_room, 5, some .int)
theorem ar_X12_room : (parseMethodDescriptor yX12_room.desc).map (fun d => d.parameters.length) = some 2 := (by decide +kernel)
abbrev m_X12_roomEnd : mth := (yX12_roomEnd, cX12_roomEnd, 9, some .int)
theorem ar_X12_roomEnd : (parseMethodDescriptor yX12_roomEnd.desc).map (fun d => d.parameters.length) = some 5 := (by decide +kernel)
abbrev m_X12_roomMany : mth := (yX12_roomMany, cX12_roomMany, 8, some .int)
theorem ar_X12_roomMany : (parseMethodDescriptor yX12_roomMany.desc).map (fun d => d.parameters.length) = some 4 := (by decide +kernel)
abbrev m_X12_rooms : mth := (yX12_rooms, cX12_rooms, 7, some .int)
theorem ar_X12_rooms : (parseMethodDescriptor yX12_rooms.desc).map (fun d => d.parameters.length) = some 4 := (by decide +kernel)
abbrev m_X12_row : mth := (yX12_row, cX12_row, 2, some .int)
theorem ar_X12_row : (parseMethodDescriptor yX12_row.desc).map (fun d => d.parameters.length) = some 1 := (by decide +kernel)
abbrev m_X12_rowCall : mth := (yX12_rowCall, cX12_rowCall, 3, some .int)
theorem ar_X12_rowCall : (parseMethodDescriptor yX12_rowCall.desc).map (fun d => d.parameters.length) = some 2 := (by decide +kernel)
abbrev m_X12_rows : mth := (yX12_rows, cX12_rows, 2, none)
theorem ar_X12_rows : (parseMethodDescriptor yX12_rows.desc).map (fun d => d.parameters.length) = some 1 := (by decide +kernel)
abbrev m_X12_runs : mth := (yX12_runs, cX12_runs, 10, some .int)
theorem ar_X12_runs : (parseMethodDescriptor yX12_runs.desc).map (fun d => d.parameters.length) = some 2 := (by decide +kernel)
abbrev m_X12_seeds : mth := (yX12_seeds, cX12_seeds, 9, some .int)
theorem ar_X12_seeds : (parseMethodDescriptor yX12_seeds.desc).map (fun d => d.parameters.length) = some 5 := (by decide +kernel)
abbrev m_X12_sets : mth := (yX12_sets, cX12_sets, 6, none)
theorem ar_X12_sets : (parseMethodDescriptor yX12_sets.desc).map (fun d => d.parameters.length) = some 4 := (by decide +kernel)
abbrev m_X12_shape : mth := (yX12_shape, cX12_shape, 7, some .int)
theorem ar_X12_shape : (parseMethodDescriptor yX12_shape.desc).map (fun d => d.parameters.length) = some 1 := (by decide +kernel)
abbrev m_X12_sign : mth := (yX12_sign, cX12_sign, 2, none)
theorem ar_X12_sign : (parseMethodDescriptor yX12_sign.desc).map (fun d => d.parameters.length) = some 1 := (by decide +kernel)
abbrev m_X12_since : mth := (yX12_since, cX12_since, 5, some .int)
theorem ar_X12_since : (parseMethodDescriptor yX12_since.desc).map (fun d => d.parameters.length) = some 3 := (by decide +kernel)
abbrev m_X12_size : mth := (yX12_size, cX12_size, 3, some .int)
theorem ar_X12_size : (parseMethodDescriptor yX12_size.desc).map (fun d => d.parameters.length) = some 2 := (by decide +kernel)
abbrev m_X12_sorted : mth := (yX12_sorted, cX12_sorted, 9, some .int)
theorem ar_X12_sorted : (parseMethodDescriptor yX12_sorted.desc).map (fun d => d.parameters.length) = some 3 := (by decide +kernel)
abbrev m_X12_split : mth := (yX12_split, cX12_split, 8, some .int)
theorem ar_X12_split : (parseMethodDescriptor yX12_split.desc).map (fun d => d.parameters.length) = some 3 := (by decide +kernel)
abbrev m_X12_status : mth := (yX12_status, cX12_status, 2, some .int)
theorem ar_X12_status : (parseMethodDescriptor yX12_status.desc).map (fun d => d.parameters.length) = some 1 := (by decide +kernel)
abbrev m_X12_steals : mth := (yX12_steals, cX12_steals, 5, some .int)
theorem ar_X12_steals : (parseMethodDescriptor yX12_steals.desc).map (fun d => d.parameters.length) = some 4 := (by decide +kernel)
abbrev m_X12_stepOf : mth := (yX12_stepOf, cX12_stepOf, 1, some .int)
theorem ar_X12_stepOf : (parseMethodDescriptor yX12_stepOf.desc).map (fun d => d.parameters.length) = some 1 := (by decide +kernel)
abbrev m_X12_steps : mth := (yX12_steps, cX12_steps, 6, some .boolean)
theorem ar_X12_steps : (parseMethodDescriptor yX12_steps.desc).map (fun d => d.parameters.length) = some 2 := (by decide +kernel)
abbrev m_X12_sum : mth := (yX12_sum, cX12_sum, 2, none)
theorem ar_X12_sum : (parseMethodDescriptor yX12_sum.desc).map (fun d => d.parameters.length) = some 0 := (by decide +kernel)
abbrev m_X12_thief : mth := (yX12_thief, cX12_thief, 3, some .int)
theorem ar_X12_thief : (parseMethodDescriptor yX12_thief.desc).map (fun d => d.parameters.length) = some 1 := (by decide +kernel)
abbrev m_X12_thrown : mth := (yX12_thrown, cX12_thrown, 1, some .int)
theorem ar_X12_thrown : (parseMethodDescriptor yX12_thrown.desc).map (fun d => d.parameters.length) = some 0 := (by decide +kernel)
abbrev m_X12_told : mth := (yX12_told, cX12_told, 2, some .int)
theorem ar_X12_told : (parseMethodDescriptor yX12_told.desc).map (fun d => d.parameters.length) = some 1 := (by decide +kernel)
abbrev m_X12_touch : mth := (yX12_touch, cX12_touch, 12, some .int)
theorem ar_X12_touch : (parseMethodDescriptor yX12_touch.desc).map (fun d => d.parameters.length) = some 5 := (by decide +kernel)
abbrev m_X12_touchDrop : mth := (yX12_touchDrop, cX12_touchDrop, 12, some .int)
theorem ar_X12_touchDrop : (parseMethodDescriptor yX12_touchDrop.desc).map (fun d => d.parameters.length) = some 4 := (by decide +kernel)
abbrev m_X12_touchPut : mth := (yX12_touchPut, cX12_touchPut, 8, some .int)
theorem ar_X12_touchPut : (parseMethodDescriptor yX12_touchPut.desc).map (fun d => d.parameters.length) = some 4 := (by decide +kernel)
abbrev m_X12_touchSet : mth := (yX12_touchSet, cX12_touchSet, 5, some .int)
theorem ar_X12_touchSet : (parseMethodDescriptor yX12_touchSet.desc).map (fun d => d.parameters.length) = some 3 := (by decide +kernel)
abbrev m_X12_touched : mth := (yX12_touched, cX12_touched, 5, some .int)
theorem ar_X12_touched : (parseMethodDescriptor yX12_touched.desc).map (fun d => d.parameters.length) = some 4 := (by decide +kernel)
abbrev m_X12_touches : mth := (yX12_touches, cX12_touches, 5, some .int)
theorem ar_X12_touches : (parseMethodDescriptor yX12_touches.desc).map (fun d => d.parameters.length) = some 4 := (by decide +kernel)
abbrev m_X12_unit : mth := (yX12_unit, cX12_unit, 4, none)
theorem ar_X12_unit : (parseMethodDescriptor yX12_unit.desc).map (fun d => d.parameters.length) = some 0 := (by decide +kernel)
abbrev m_X12_was : mth := (yX12_was, cX12_was, 5, some .int)
theorem ar_X12_was : (parseMethodDescriptor yX12_was.desc).map (fun d => d.parameters.length) = some 3 := (by decide +kernel)
abbrev m_X12_within : mth := (yX12_within, cX12_within, 3, some .boolean)
theorem ar_X12_within : (parseMethodDescriptor yX12_within.desc).map (fun d => d.parameters.length) = some 3 := (by decide +kernel)
abbrev m_X12_word : mth := (yX12_word, cX12_word, 4, some .int)
theorem ar_X12_word : (parseMethodDescriptor yX12_word.desc).map (fun d => d.parameters.length) = some 0 := (by decide +kernel)
abbrev m_X12_worked : mth := (yX12_worked, cX12_worked, 8, some .int)
theorem ar_X12_worked : (parseMethodDescriptor yX12_worked.desc).map (fun d => d.parameters.length) = some 3 := (by decide +kernel)
abbrev m_X12_works : mth := (yX12_works, cX12_works, 4, none)
theorem ar_X12_works : (parseMethodDescriptor yX12_works.desc).map (fun d => d.parameters.length) = some 3 := (by decide +kernel)
abbrev m_X12_worst : mth := (yX12_worst, cX12_worst, 4, some .int)
theorem ar_X12_worst : (parseMethodDescriptor yX12_worst.desc).map (fun d => d.parameters.length) = some 3 := (by decide +kernel)
abbrev m_X12_wrong : mth := (yX12_wrong, cX12_wrong, 3, none)
theorem ar_X12_wrong : (parseMethodDescriptor yX12_wrong.desc).map (fun d => d.parameters.length) = some 2 := (by decide +kernel)
abbrev m_X1_allCells : mth := (yX1_allCells, cX1_allCells, 1, some .int)
theorem nh_RX1 : RX1 ≠ "java/lang/invoke/MethodHandle" ∧ RX1 ≠ "java/lang/invoke/VarHandle" := ⟨(by decide +kernel), (by decide +kernel)⟩
theorem ar_X1_allCells : (parseMethodDescriptor yX1_allCells.desc).map (fun d => d.parameters.length) = some 0 := (by decide +kernel)
abbrev m_X1_cellsOf : mth := (yX1_cellsOf, cX1_cellsOf, 13, some .int)
theorem ar_X1_cellsOf : (parseMethodDescriptor yX1_cellsOf.desc).map (fun d => d.parameters.length) = some 4 := (by decide +kernel)
abbrev m_X1_enterList : mth := (yX1_enterList, cX1_enterList, 2, none)
theorem ar_X1_enterList : (parseMethodDescriptor yX1_enterList.desc).map (fun d => d.parameters.length) = some 1 := (by decide +kernel)
abbrev m_X1_enterRoom : mth := (yX1_enterRoom, cX1_enterRoom, 2, none)
theorem ar_X1_enterRoom : (parseMethodDescriptor yX1_enterRoom.desc).map (fun d => d.parameters.length) = some 1 := (by decide +kernel)
abbrev m_X1_findRoom : mth := (yX1_findRoom, cX1_findRoom, 3, some .boolean)
theorem ar_X1_findRoom : (parseMethodDescriptor yX1_findRoom.desc).map (fun d => d.parameters.length) = some 1 := (by decide +kernel)
abbrev m_X1_firstFrom : mth := (yX1_firstFrom, cX1_firstFrom, 6, some .int)
theorem ar_X1_firstFrom : (parseMethodDescriptor yX1_firstFrom.desc).map (fun d => d.parameters.length) = some 3 := (by decide +kernel)
abbrev m_X1_goOnAsking : mth := (yX1_goOnAsking, cX1_goOnAsking, 1, none)
theorem ar_X1_goOnAsking : (parseMethodDescriptor yX1_goOnAsking.desc).map (fun d => d.parameters.length) = some 0 := (by decide +kernel)
abbrev m_X1_goOnDown : mth := (yX1_goOnDown, cX1_goOnDown, 2, some .int)
theorem ar_X1_goOnDown : (parseMethodDescriptor yX1_goOnDown.desc).map (fun d => d.parameters.length) = some 0 := (by decide +kernel)
abbrev m_X1_goOnDropping : mth := (yX1_goOnDropping, cX1_goOnDropping, 4, some .int)
theorem ar_X1_goOnDropping : (parseMethodDescriptor yX1_goOnDropping.desc).map (fun d => d.parameters.length) = some 0 := (by decide +kernel)
abbrev m_X1_goOnPutting : mth := (yX1_goOnPutting, cX1_goOnPutting, 2, some .int)
theorem ar_X1_goOnPutting : (parseMethodDescriptor yX1_goOnPutting.desc).map (fun d => d.parameters.length) = some 0 := (by decide +kernel)
abbrev m_X1_goOnUp : mth := (yX1_goOnUp, cX1_goOnUp, 2, some .int)
theorem ar_X1_goOnUp : (parseMethodDescriptor yX1_goOnUp.desc).map (fun d => d.parameters.length) = some 0 := (by decide +kernel)
abbrev m_X1_init : mth := (yX1_init, cX1_init, 3, none)
theorem ar_X1_init : (parseMethodDescriptor yX1_init.desc).map (fun d => d.parameters.length) = some 2 := (by decide +kernel)
abbrev m_X1_look : mth := (yX1_look, cX1_look, 1, none)
theorem ar_X1_look : (parseMethodDescriptor yX1_look.desc).map (fun d => d.parameters.length) = some 0 := (by decide +kernel)
abbrev m_X1_touchesOf : mth := (yX1_touchesOf, cX1_touchesOf, 5, some .int)
theorem ar_X1_touchesOf : (parseMethodDescriptor yX1_touchesOf.desc).map (fun d => d.parameters.length) = some 2 := (by decide +kernel)
abbrev m_X1_valueAt : mth := (yX1_valueAt, cX1_valueAt, 2, some .int)
theorem ar_X1_valueAt : (parseMethodDescriptor yX1_valueAt.desc).map (fun d => d.parameters.length) = some 1 := (by decide +kernel)
abbrev m_X2_change : mth := (yX2_change, cX2_change, 5, some .int)
theorem nh_RX2 : RX2 ≠ "java/lang/invoke/MethodHandle" ∧ RX2 ≠ "java/lang/invoke/VarHandle" := ⟨(by decide +kernel), (by decide +kernel)⟩
theorem ar_X2_change : (parseMethodDescriptor yX2_change.desc).map (fun d => d.parameters.length) = some 2 := (by decide +kernel)
abbrev m_X2_clear : mth := (yX2_clear, cX2_clear, 1, none)
theorem ar_X2_clear : (parseMethodDescriptor yX2_clear.desc).map (fun d => d.parameters.length) = some 0 := (by decide +kernel)
abbrev m_X2_copying : mth := (yX2_copying, cX2_copying, 3, some .int)
theorem ar_X2_copying : (parseMethodDescriptor yX2_copying.desc).map (fun d => d.parameters.length) = some 0 := (by decide +kernel)
abbrev m_X2_dropAllBut : mth := (yX2_dropAllBut, cX2_dropAllBut, 7, some .int)
theorem ar_X2_dropAllBut : (parseMethodDescriptor yX2_dropAllBut.desc).map (fun d => d.parameters.length) = some 1 := (by decide +kernel)
abbrev m_X2_fillPast : mth := (yX2_fillPast, cX2_fillPast, 4, none)
theorem ar_X2_fillPast : (parseMethodDescriptor yX2_fillPast.desc).map (fun d => d.parameters.length) = some 2 := (by decide +kernel)
abbrev m_X2_goBack : mth := (yX2_goBack, cX2_goBack, 2, none)
theorem ar_X2_goBack : (parseMethodDescriptor yX2_goBack.desc).map (fun d => d.parameters.length) = some 1 := (by decide +kernel)
abbrev m_X2_init : mth := (yX2_init, cX2_init, 2, none)
theorem ar_X2_init : (parseMethodDescriptor yX2_init.desc).map (fun d => d.parameters.length) = some 1 := (by decide +kernel)
abbrev m_X2_lastChange : mth := (yX2_lastChange, cX2_lastChange, 4, some .int)
theorem ar_X2_lastChange : (parseMethodDescriptor yX2_lastChange.desc).map (fun d => d.parameters.length) = some 2 := (by decide +kernel)
abbrev m_X2_make : mth := (yX2_make, cX2_make, 5, some .int)
theorem ar_X2_make : (parseMethodDescriptor yX2_make.desc).map (fun d => d.parameters.length) = some 2 := (by decide +kernel)
abbrev m_X2_makeAll : mth := (yX2_makeAll, cX2_makeAll, 5, some .int)
theorem ar_X2_makeAll : (parseMethodDescriptor yX2_makeAll.desc).map (fun d => d.parameters.length) = some 2 := (by decide +kernel)
abbrev m_X2_refusal : mth := (yX2_refusal, cX2_refusal, 3, some .int)
theorem ar_X2_refusal : (parseMethodDescriptor yX2_refusal.desc).map (fun d => d.parameters.length) = some 2 := (by decide +kernel)
abbrev m_X2_replay : mth := (yX2_replay, cX2_replay, 5, none)
theorem ar_X2_replay : (parseMethodDescriptor yX2_replay.desc).map (fun d => d.parameters.length) = some 3 := (by decide +kernel)
abbrev m_X3_above : mth := (yX3_above, cX3_above, 2, some .int)
theorem nh_RX3 : RX3 ≠ "java/lang/invoke/MethodHandle" ∧ RX3 ≠ "java/lang/invoke/VarHandle" := ⟨(by decide +kernel), (by decide +kernel)⟩
theorem ar_X3_above : (parseMethodDescriptor yX3_above.desc).map (fun d => d.parameters.length) = some 1 := (by decide +kernel)
abbrev m_X3_add : mth := (yX3_add, cX3_add, 3, some .boolean)
theorem ar_X3_add : (parseMethodDescriptor yX3_add.desc).map (fun d => d.parameters.length) = some 1 := (by decide +kernel)
abbrev m_X3_answer : mth := (yX3_answer, cX3_answer, 4, some .int)
theorem ar_X3_answer : (parseMethodDescriptor yX3_answer.desc).map (fun d => d.parameters.length) = some 2 := (by decide +kernel)
abbrev m_X3_at : mth := (yX3_at, cX3_at, 2, some .int)
theorem ar_X3_at : (parseMethodDescriptor yX3_at.desc).map (fun d => d.parameters.length) = some 1 := (by decide +kernel)
abbrev m_X3_beFirstSet : mth := (yX3_beFirstSet, cX3_beFirstSet, 3, none)
theorem ar_X3_beFirstSet : (parseMethodDescriptor yX3_beFirstSet.desc).map (fun d => d.parameters.length) = some 1 := (by decide +kernel)
abbrev m_X3_beNextSet : mth := (yX3_beNextSet, cX3_beNextSet, 5, some .boolean)
theorem ar_X3_beNextSet : (parseMethodDescriptor yX3_beNextSet.desc).map (fun d => d.parameters.length) = some 1 := (by decide +kernel)
abbrev m_X3_below : mth := (yX3_below, cX3_below, 2, some .int)
theorem ar_X3_below : (parseMethodDescriptor yX3_below.desc).map (fun d => d.parameters.length) = some 1 := (by decide +kernel)
abbrev m_X3_clear : mth := (yX3_clear, cX3_clear, 1, none)
theorem ar_X3_clear : (parseMethodDescriptor yX3_clear.desc).map (fun d => d.parameters.length) = some 0 := (by decide +kernel)
abbrev m_X3_commonFrom : mth := (yX3_commonFrom, cX3_commonFrom, 5, some .int)
theorem ar_X3_commonFrom : (parseMethodDescriptor yX3_commonFrom.desc).map (fun d => d.parameters.length) = some 2 := (by decide +kernel)
abbrev m_X3_copyFrom : mth := (yX3_copyFrom, cX3_copyFrom, 2, none)
theorem ar_X3_copyFrom : (parseMethodDescriptor yX3_copyFrom.desc).map (fun d => d.parameters.length) = some 1 := (by decide +kernel)
abbrev m_X3_firstFrom : mth := (yX3_firstFrom, cX3_firstFrom, 5, some .int)
theorem ar_X3_firstFrom : (parseMethodDescriptor yX3_firstFrom.desc).map (fun d => d.parameters.length) = some 1 := (by decide +kernel)
abbrev m_X3_holds : mth := (yX3_holds, cX3_holds, 3, some .boolean)
theorem ar_X3_holds : (parseMethodDescriptor yX3_holds.desc).map (fun d => d.parameters.length) = some 1 := (by decide +kernel)
abbrev m_X3_init : mth := (yX3_init, cX3_init, 2, none)
theorem ar_X3_init : (parseMethodDescriptor yX3_init.desc).map (fun d => d.parameters.length) = some 1 := (by decide +kernel)
abbrev m_X3_remove : mth := (yX3_remove, cX3_remove, 3, some .boolean)
theorem ar_X3_remove : (parseMethodDescriptor yX3_remove.desc).map (fun d => d.parameters.length) = some 1 := (by decide +kernel)
abbrev m_X3_runsWith : mth := (yX3_runsWith, cX3_runsWith, 7, some .int)
theorem ar_X3_runsWith : (parseMethodDescriptor yX3_runsWith.desc).map (fun d => d.parameters.length) = some 1 := (by decide +kernel)
abbrev m_X3_tell : mth := (yX3_tell, cX3_tell, 2, some .int)
theorem ar_X3_tell : (parseMethodDescriptor yX3_tell.desc).map (fun d => d.parameters.length) = some 1 := (by decide +kernel)
abbrev m_X3_touchesInRow : mth := (yX3_touchesInRow, cX3_touchesInRow, 8, some .int)
theorem ar_X3_touchesInRow : (parseMethodDescriptor yX3_touchesInRow.desc).map (fun d => d.parameters.length) = some 2 := (by decide +kernel)
abbrev m_X3_touchesInWords : mth := (yX3_touchesInWords, cX3_touchesInWords, 6, some .int)
theorem ar_X3_touchesInWords : (parseMethodDescriptor yX3_touchesInWords.desc).map (fun d => d.parameters.length) = some 3 := (by decide +kernel)
abbrev m_X3_widestGap : mth := (yX3_widestGap, cX3_widestGap, 5, some .int)
theorem ar_X3_widestGap : (parseMethodDescriptor yX3_widestGap.desc).map (fun d => d.parameters.length) = some 0 := (by decide +kernel)
abbrev m_X3_wordOf : mth := (yX3_wordOf, cX3_wordOf, 1, some .int)
theorem ar_X3_wordOf : (parseMethodDescriptor yX3_wordOf.desc).map (fun d => d.parameters.length) = some 1 := (by decide +kernel)
abbrev m_X4_begin : mth := (yX4_begin, cX4_begin, 3, none)
theorem nh_RX4 : RX4 ≠ "java/lang/invoke/MethodHandle" ∧ RX4 ≠ "java/lang/invoke/VarHandle" := ⟨(by decide +kernel), (by decide +kernel)⟩
theorem ar_X4_begin : (parseMethodDescriptor yX4_begin.desc).map (fun d => d.parameters.length) = some 2 := (by decide +kernel)
abbrev m_X4_forget : mth := (yX4_forget, cX4_forget, 1, none)
theorem ar_X4_forget : (parseMethodDescriptor yX4_forget.desc).map (fun d => d.parameters.length) = some 0 := (by decide +kernel)
abbrev m_X4_go : mth := (yX4_go, cX4_go, 5, none)
theorem ar_X4_go : (parseMethodDescriptor yX4_go.desc).map (fun d => d.parameters.length) = some 3 := (by decide +kernel)
abbrev m_X4_goRound : mth := (yX4_goRound, cX4_goRound, 4, none)
theorem ar_X4_goRound : (parseMethodDescriptor yX4_goRound.desc).map (fun d => d.parameters.length) = some 2 := (by decide +kernel)
abbrev m_X4_hold : mth := (yX4_hold, cX4_hold, 2, none)
theorem ar_X4_hold : (parseMethodDescriptor yX4_hold.desc).map (fun d => d.parameters.length) = some 1 := (by decide +kernel)
abbrev m_X4_init : mth := (yX4_init, cX4_init, 2, none)
theorem ar_X4_init : (parseMethodDescriptor yX4_init.desc).map (fun d => d.parameters.length) = some 1 := (by decide +kernel)
abbrev m_X4_makeCall : mth := (yX4_makeCall, cX4_makeCall, 4, none)
theorem ar_X4_makeCall : (parseMethodDescriptor yX4_makeCall.desc).map (fun d => d.parameters.length) = some 2 := (by decide +kernel)
abbrev m_X4_nextDraw : mth := (yX4_nextDraw, cX4_nextDraw, 1, some .int)
theorem ar_X4_nextDraw : (parseMethodDescriptor yX4_nextDraw.desc).map (fun d => d.parameters.length) = some 0 := (by decide +kernel)
abbrev m_X4_reckon : mth := (yX4_reckon, cX4_reckon, 4, none)
theorem ar_X4_reckon : (parseMethodDescriptor yX4_reckon.desc).map (fun d => d.parameters.length) = some 1 := (by decide +kernel)
abbrev m_X4_step : mth := (yX4_step, cX4_step, 4, none)
theorem ar_X4_step : (parseMethodDescriptor yX4_step.desc).map (fun d => d.parameters.length) = some 1 := (by decide +kernel)
abbrev m_X4_tell : mth := (yX4_tell, cX4_tell, 2, some .int)
theorem ar_X4_tell : (parseMethodDescriptor yX4_tell.desc).map (fun d => d.parameters.length) = some 1 := (by decide +kernel)
abbrev m_X4_yieldHeld : mth := (yX4_yieldHeld, cX4_yieldHeld, 1, some .int)
theorem ar_X4_yieldHeld : (parseMethodDescriptor yX4_yieldHeld.desc).map (fun d => d.parameters.length) = some 0 := (by decide +kernel)
abbrev m_X5_boundOf : mth := (yX5_boundOf, cX5_boundOf, 2, some .int)
theorem nh_RX5 : RX5 ≠ "java/lang/invoke/MethodHandle" ∧ RX5 ≠ "java/lang/invoke/VarHandle" := ⟨(by decide +kernel), (by decide +kernel)⟩
theorem ar_X5_boundOf : (parseMethodDescriptor yX5_boundOf.desc).map (fun d => d.parameters.length) = some 1 := (by decide +kernel)
abbrev m_X5_greatest : mth := (yX5_greatest, cX5_greatest, 1, some .int)
theorem ar_X5_greatest : (parseMethodDescriptor yX5_greatest.desc).map (fun d => d.parameters.length) = some 0 := (by decide +kernel)
abbrev m_X5_init : mth := (yX5_init, cX5_init, 1, none)
theorem ar_X5_init : (parseMethodDescriptor yX5_init.desc).map (fun d => d.parameters.length) = some 0 := (by decide +kernel)
abbrev m_X5_isSmall : mth := (yX5_isSmall, cX5_isSmall, 1, some .boolean)
theorem ar_X5_isSmall : (parseMethodDescriptor yX5_isSmall.desc).map (fun d => d.parameters.length) = some 0 := (by decide +kernel)
abbrev m_X5_lowerBits : mth := (yX5_lowerBits, cX5_lowerBits, 2, some .int)
theorem ar_X5_lowerBits : (parseMethodDescriptor yX5_lowerBits.desc).map (fun d => d.parameters.length) = some 1 := (by decide +kernel)
abbrev m_X5_mostInRows : mth := (yX5_mostInRows, cX5_mostInRows, 1, some .int)
theorem ar_X5_mostInRows : (parseMethodDescriptor yX5_mostInRows.desc).map (fun d => d.parameters.length) = some 0 := (by decide +kernel)
abbrev m_X5_mostInSets : mth := (yX5_mostInSets, cX5_mostInSets, 1, some .int)
theorem ar_X5_mostInSets : (parseMethodDescriptor yX5_mostInSets.desc).map (fun d => d.parameters.length) = some 0 := (by decide +kernel)
abbrev m_X5_mostTouches : mth := (yX5_mostTouches, cX5_mostTouches, 8, some .int)
theorem ar_X5_mostTouches : (parseMethodDescriptor yX5_mostTouches.desc).map (fun d => d.parameters.length) = some 3 := (by decide +kernel)
abbrev m_X5_take : mth := (yX5_take, cX5_take, 2, none)
theorem ar_X5_take : (parseMethodDescriptor yX5_take.desc).map (fun d => d.parameters.length) = some 1 := (by decide +kernel)
abbrev m_X6_init : mth := (yX6_init, cX6_init, 1, none)
theorem nh_RX6 : RX6 ≠ "java/lang/invoke/MethodHandle" ∧ RX6 ≠ "java/lang/invoke/VarHandle" := ⟨(by decide +kernel), (by decide +kernel)⟩
theorem ar_X6_init : (parseMethodDescriptor yX6_init.desc).map (fun d => d.parameters.length) = some 0 := (by decide +kernel)
abbrev m_X6_read : mth := (yX6_read, cX6_read, 3, none)
theorem ar_X6_read : (parseMethodDescriptor yX6_read.desc).map (fun d => d.parameters.length) = some 1 := (by decide +kernel)
abbrev m_X6_readClause : mth := (yX6_readClause, cX6_readClause, 3, none)
theorem ar_X6_readClause : (parseMethodDescriptor yX6_readClause.desc).map (fun d => d.parameters.length) = some 1 := (by decide +kernel)
abbrev m_X6_readValue : mth := (yX6_readValue, cX6_readValue, 3, none)
theorem ar_X6_readValue : (parseMethodDescriptor yX6_readValue.desc).map (fun d => d.parameters.length) = some 2 := (by decide +kernel)
abbrev m_X7_ahead : mth := (yX7_ahead, cX7_ahead, 1, some .int)
theorem nh_RX7 : RX7 ≠ "java/lang/invoke/MethodHandle" ∧ RX7 ≠ "java/lang/invoke/VarHandle" := ⟨(by decide +kernel), (by decide +kernel)⟩
theorem ar_X7_ahead : (parseMethodDescriptor yX7_ahead.desc).map (fun d => d.parameters.length) = some 0 := (by decide +kernel)
abbrev m_X7_hasPlace : mth := (yX7_hasPlace, cX7_hasPlace, 1, some .boolean)
theorem ar_X7_hasPlace : (parseMethodDescriptor yX7_hasPlace.desc).map (fun d => d.parameters.length) = some 0 := (by decide +kernel)
abbrev m_X7_init : mth := (yX7_init, cX7_init, 1, none)
theorem ar_X7_init : (parseMethodDescriptor yX7_init.desc).map (fun d => d.parameters.length) = some 0 := (by decide +kernel)
abbrev m_X7_isSound : mth := (yX7_isSound, cX7_isSound, 1, some .boolean)
theorem ar_X7_isSound : (parseMethodDescriptor yX7_isSound.desc).map (fun d => d.parameters.length) = some 0 := (by decide +kernel)
abbrev m_X7_needSign : mth := (yX7_needSign, cX7_needSign, 2, none)
theorem ar_X7_needSign : (parseMethodDescriptor yX7_needSign.desc).map (fun d => d.parameters.length) = some 1 := (by decide +kernel)
abbrev m_X7_open : mth := (yX7_open, cX7_open, 2, none)
theorem ar_X7_open : (parseMethodDescriptor yX7_open.desc).map (fun d => d.parameters.length) = some 1 := (by decide +kernel)
abbrev m_X7_readNumber : mth := (yX7_readNumber, cX7_readNumber, 4, some .int)
theorem ar_X7_readNumber : (parseMethodDescriptor yX7_readNumber.desc).map (fun d => d.parameters.length) = some 2 := (by decide +kernel)
abbrev m_X7_readWord : mth := (yX7_readWord, cX7_readWord, 1, none)
theorem ar_X7_readWord : (parseMethodDescriptor yX7_readWord.desc).map (fun d => d.parameters.length) = some 0 := (by decide +kernel)
abbrev m_X7_refuse : mth := (yX7_refuse, cX7_refuse, 2, none)
theorem ar_X7_refuse : (parseMethodDescriptor yX7_refuse.desc).map (fun d => d.parameters.length) = some 1 := (by decide +kernel)
abbrev m_X7_take : mth := (yX7_take, cX7_take, 3, none)
theorem ar_X7_take : (parseMethodDescriptor yX7_take.desc).map (fun d => d.parameters.length) = some 1 := (by decide +kernel)
abbrev m_X7_takeSign : mth := (yX7_takeSign, cX7_takeSign, 3, some .boolean)
theorem ar_X7_takeSign : (parseMethodDescriptor yX7_takeSign.desc).map (fun d => d.parameters.length) = some 1 := (by decide +kernel)
abbrev m_X7_wordIs : mth := (yX7_wordIs, cX7_wordIs, 3, some .boolean)
theorem ar_X7_wordIs : (parseMethodDescriptor yX7_wordIs.desc).map (fun d => d.parameters.length) = some 1 := (by decide +kernel)
abbrev m_X8_add : mth := (yX8_add, cX8_add, 3, none)
theorem nh_RX8 : RX8 ≠ "java/lang/invoke/MethodHandle" ∧ RX8 ≠ "java/lang/invoke/VarHandle" := ⟨(by decide +kernel), (by decide +kernel)⟩
theorem ar_X8_add : (parseMethodDescriptor yX8_add.desc).map (fun d => d.parameters.length) = some 2 := (by decide +kernel)
abbrev m_X8_clear : mth := (yX8_clear, cX8_clear, 1, none)
theorem ar_X8_clear : (parseMethodDescriptor yX8_clear.desc).map (fun d => d.parameters.length) = some 0 := (by decide +kernel)
abbrev m_X8_init : mth := (yX8_init, cX8_init, 1, none)
theorem ar_X8_init : (parseMethodDescriptor yX8_init.desc).map (fun d => d.parameters.length) = some 0 := (by decide +kernel)
abbrev m_X9_addName : mth := (yX9_addName, cX9_addName, 2, none)
theorem nh_RX9 : RX9 ≠ "java/lang/invoke/MethodHandle" ∧ RX9 ≠ "java/lang/invoke/VarHandle" := ⟨(by decide +kernel), (by decide +kernel)⟩
theorem ar_X9_addName : (parseMethodDescriptor yX9_addName.desc).map (fun d => d.parameters.length) = some 0 := (by decide +kernel)
abbrev m_X9_callOfWord : mth := (yX9_callOfWord, cX9_callOfWord, 1, some .int)
theorem ar_X9_callOfWord : (parseMethodDescriptor yX9_callOfWord.desc).map (fun d => d.parameters.length) = some 0 := (by decide +kernel)
abbrev m_X9_closeLoop : mth := (yX9_closeLoop, cX9_closeLoop, 1, none)
theorem ar_X9_closeLoop : (parseMethodDescriptor yX9_closeLoop.desc).map (fun d => d.parameters.length) = some 0 := (by decide +kernel)
abbrev m_X9_init : mth := (yX9_init, cX9_init, 1, none)
theorem ar_X9_init : (parseMethodDescriptor yX9_init.desc).map (fun d => d.parameters.length) = some 0 := (by decide +kernel)
abbrev m_X9_isOver : mth := (yX9_isOver, cX9_isOver, 1, some .boolean)
theorem ar_X9_isOver : (parseMethodDescriptor yX9_isOver.desc).map (fun d => d.parameters.length) = some 0 := (by decide +kernel)
abbrev m_X9_openLoop : mth := (yX9_openLoop, cX9_openLoop, 2, none)
theorem ar_X9_openLoop : (parseMethodDescriptor yX9_openLoop.desc).map (fun d => d.parameters.length) = some 0 := (by decide +kernel)
abbrev m_X9_read : mth := (yX9_read, cX9_read, 4, none)
theorem ar_X9_read : (parseMethodDescriptor yX9_read.desc).map (fun d => d.parameters.length) = some 2 := (by decide +kernel)
abbrev m_X9_readProduct : mth := (yX9_readProduct, cX9_readProduct, 4, none)
theorem ar_X9_readProduct : (parseMethodDescriptor yX9_readProduct.desc).map (fun d => d.parameters.length) = some 1 := (by decide +kernel)
abbrev m_X9_readStep : mth := (yX9_readStep, cX9_readStep, 3, none)
theorem ar_X9_readStep : (parseMethodDescriptor yX9_readStep.desc).map (fun d => d.parameters.length) = some 0 := (by decide +kernel)
abbrev m_X9_readSum : mth := (yX9_readSum, cX9_readSum, 4, none)
theorem ar_X9_readSum : (parseMethodDescriptor yX9_readSum.desc).map (fun d => d.parameters.length) = some 1 := (by decide +kernel)
abbrev m_X9_readUnit : mth := (yX9_readUnit, cX9_readUnit, 3, none)
theorem ar_X9_readUnit : (parseMethodDescriptor yX9_readUnit.desc).map (fun d => d.parameters.length) = some 1 := (by decide +kernel)
def ft_ : List (Nat × Nat × Nat) := [(0, 0, 5), (0, 1, 3), (0, 2, 1), (0, 3, 18), (0, 5, 13), (1, 0, 5), (1, 1, 3), (1, 2, 13), (2, 0, 3), (2, 1, 1), (2, 2, 13), (2, 3, 13), (3, 0, 13), (4, 0, 5), (4, 1, 3), (4, 2, 1), (4, 3, 13), (4, 4, 13), (6, 3, 15), (7, 0, 13), (8, 0, 13), (8, 1, 13), (9, 5, 13), (9, 6, 13), (10, 0, 5), (10, 1, 3), (10, 2, 1), (10, 3, 13), (10, 4, 18), (10, 5, 18), (10, 6, 19), (11, 0, 7), (11, 1, 5), (11, 2, 6), (11, 3, 9), (11, 4, 17), (11, 6, 16), (11, 7, 3), (11, 8, 4), (11, 9, 10), (11, 10, 0), (11, 11, 18), (11, 13, 13), (12, 1, 13), (12, 9, 13), (12, 13, 13), (12, 14, 13), (12, 15, 13), (12, 16, 13), (12, 17, 13), (12, 19, 13), (12, 20, 13), (12, 21, 13), (12, 22, 13), (12, 23, 13), (12, 28, 13), (12, 29, 13), (12, 30, 13), (12, 31, 13), (12, 32, 13), (12, 33, 13), (12, 34, 13), (12, 35, 13), (12, 41, 13), (12, 42, 13), (12, 43, 13), (12, 44, 13), (12, 46, 13), (12, 48, 13), (12, 57, 13)]
def et_ : List (Nat × Nat) := [(16, 2), (17, 8), (18, 13), (19, 14)]
/-- the references are of their kinds -/
def WT (g : gp) : Prop := (∀ t ∈ ft_, ∀ a b : Nat, q_K g a = t.1 → q_O g t.1 t.2.1 a = some b → q_K g b = t.2.2) ∧ ∀ t ∈ et_, ∀ a i b : Nat, q_K g a = t.1 → q_E g a i = some b → q_K g b = t.2
theorem wt_0_0 {g : gp} (w : WT g) {a b : Nat} (h1 : q_K g a = 0) (h2 : q_O g 0 0 a = some b) : q_K g b = 5 := w.1 (0, 0, 5) (by decide) a b h1 h2
theorem wt_0_1 {g : gp} (w : WT g) {a b : Nat} (h1 : q_K g a = 0) (h2 : q_O g 0 1 a = some b) : q_K g b = 3 := w.1 (0, 1, 3) (by decide) a b h1 h2
theorem wt_0_2 {g : gp} (w : WT g) {a b : Nat} (h1 : q_K g a = 0) (h2 : q_O g 0 2 a = some b) : q_K g b = 1 := w.1 (0, 2, 1) (by decide) a b h1 h2
theorem wt_0_3 {g : gp} (w : WT g) {a b : Nat} (h1 : q_K g a = 0) (h2 : q_O g 0 3 a = some b) : q_K g b = 18 := w.1 (0, 3, 18) (by decide) a b h1 h2
theorem wt_0_5 {g : gp} (w : WT g) {a b : Nat} (h1 : q_K g a = 0) (h2 : q_O g 0 5 a = some b) : q_K g b = 13 := w.1 (0, 5, 13) (by decide) a b h1 h2
theorem wt_1_0 {g : gp} (w : WT g) {a b : Nat} (h1 : q_K g a = 1) (h2 : q_O g 1 0 a = some b) : q_K g b = 5 := w.1 (1, 0, 5) (by decide) a b h1 h2
theorem wt_1_1 {g : gp} (w : WT g) {a b : Nat} (h1 : q_K g a = 1) (h2 : q_O g 1 1 a = some b) : q_K g b = 3 := w.1 (1, 1, 3) (by decide) a b h1 h2
theorem wt_1_2 {g : gp} (w : WT g) {a b : Nat} (h1 : q_K g a = 1) (h2 : q_O g 1 2 a = some b) : q_K g b = 13 := w.1 (1, 2, 13) (by decide) a b h1 h2
theorem wt_2_0 {g : gp} (w : WT g) {a b : Nat} (h1 : q_K g a = 2) (h2 : q_O g 2 0 a = some b) : q_K g b = 3 := w.1 (2, 0, 3) (by decide) a b h1 h2
theorem wt_2_1 {g : gp} (w : WT g) {a b : Nat} (h1 : q_K g a = 2) (h2 : q_O g 2 1 a = some b) : q_K g b = 1 := w.1 (2, 1, 1) (by decide) a b h1 h2
theorem wt_2_2 {g : gp} (w : WT g) {a b : Nat} (h1 : q_K g a = 2) (h2 : q_O g 2 2 a = some b) : q_K g b = 13 := w.1 (2, 2, 13) (by decide) a b h1 h2
theorem wt_2_3 {g : gp} (w : WT g) {a b : Nat} (h1 : q_K g a = 2) (h2 : q_O g 2 3 a = some b) : q_K g b = 13 := w.1 (2, 3, 13) (by decide) a b h1 h2
theorem wt_3_0 {g : gp} (w : WT g) {a b : Nat} (h1 : q_K g a = 3) (h2 : q_O g 3 0 a = some b) : q_K g b = 13 := w.1 (3, 0, 13) (by decide) a b h1 h2
theorem wt_4_0 {g : gp} (w : WT g) {a b : Nat} (h1 : q_K g a = 4) (h2 : q_O g 4 0 a = some b) : q_K g b = 5 := w.1 (4, 0, 5) (by decide) a b h1 h2
theorem wt_4_1 {g : gp} (w : WT g) {a b : Nat} (h1 : q_K g a = 4) (h2 : q_O g 4 1 a = some b) : q_K g b = 3 := w.1 (4, 1, 3) (by decide) a b h1 h2
theorem wt_4_2 {g : gp} (w : WT g) {a b : Nat} (h1 : q_K g a = 4) (h2 : q_O g 4 2 a = some b) : q_K g b = 1 := w.1 (4, 2, 1) (by decide) a b h1 h2
theorem wt_4_3 {g : gp} (w : WT g) {a b : Nat} (h1 : q_K g a = 4) (h2 : q_O g 4 3 a = some b) : q_K g b = 13 := w.1 (4, 3, 13) (by decide) a b h1 h2
theorem wt_4_4 {g : gp} (w : WT g) {a b : Nat} (h1 : q_K g a = 4) (h2 : q_O g 4 4 a = some b) : q_K g b = 13 := w.1 (4, 4, 13) (by decide) a b h1 h2
theorem wt_6_3 {g : gp} (w : WT g) {a b : Nat} (h1 : q_K g a = 6) (h2 : q_O g 6 3 a = some b) : q_K g b = 15 := w.1 (6, 3, 15) (by decide) a b h1 h2
theorem wt_7_0 {g : gp} (w : WT g) {a b : Nat} (h1 : q_K g a = 7) (h2 : q_O g 7 0 a = some b) : q_K g b = 13 := w.1 (7, 0, 13) (by decide) a b h1 h2
theorem wt_8_0 {g : gp} (w : WT g) {a b : Nat} (h1 : q_K g a = 8) (h2 : q_O g 8 0 a = some b) : q_K g b = 13 := w.1 (8, 0, 13) (by decide) a b h1 h2
theorem wt_8_1 {g : gp} (w : WT g) {a b : Nat} (h1 : q_K g a = 8) (h2 : q_O g 8 1 a = some b) : q_K g b = 13 := w.1 (8, 1, 13) (by decide) a b h1 h2
theorem wt_9_5 {g : gp} (w : WT g) {a b : Nat} (h1 : q_K g a = 9) (h2 : q_O g 9 5 a = some b) : q_K g b = 13 := w.1 (9, 5, 13) (by decide) a b h1 h2
theorem wt_9_6 {g : gp} (w : WT g) {a b : Nat} (h1 : q_K g a = 9) (h2 : q_O g 9 6 a = some b) : q_K g b = 13 := w.1 (9, 6, 13) (by decide) a b h1 h2
theorem wt_10_0 {g : gp} (w : WT g) {a b : Nat} (h1 : q_K g a = 10) (h2 : q_O g 10 0 a = some b) : q_K g b = 5 := w.1 (10, 0, 5) (by decide) a b h1 h2
theorem wt_10_1 {g : gp} (w : WT g) {a b : Nat} (h1 : q_K g a = 10) (h2 : q_O g 10 1 a = some b) : q_K g b = 3 := w.1 (10, 1, 3) (by decide) a b h1 h2
theorem wt_10_2 {g : gp} (w : WT g) {a b : Nat} (h1 : q_K g a = 10) (h2 : q_O g 10 2 a = some b) : q_K g b = 1 := w.1 (10, 2, 1) (by decide) a b h1 h2
theorem wt_10_3 {g : gp} (w : WT g) {a b : Nat} (h1 : q_K g a = 10) (h2 : q_O g 10 3 a = some b) : q_K g b = 13 := w.1 (10, 3, 13) (by decide) a b h1 h2
theorem wt_10_4 {g : gp} (w : WT g) {a b : Nat} (h1 : q_K g a = 10) (h2 : q_O g 10 4 a = some b) : q_K g b = 18 := w.1 (10, 4, 18) (by decide) a b h1 h2
theorem wt_10_5 {g : gp} (w : WT g) {a b : Nat} (h1 : q_K g a = 10) (h2 : q_O g 10 5 a = some b) : q_K g b = 18 := w.1 (10, 5, 18) (by decide) a b h1 h2
theorem wt_10_6 {g : gp} (w : WT g) {a b : Nat} (h1 : q_K g a = 10) (h2 : q_O g 10 6 a = some b) : q_K g b = 19 := w.1 (10, 6, 19) (by decide) a b h1 h2
theorem wt_11_0 {g : gp} (w : WT g) {a b : Nat} (h1 : q_K g a = 11) (h2 : q_O g 11 0 a = some b) : q_K g b = 7 := w.1 (11, 0, 7) (by decide) a b h1 h2
theorem wt_11_1 {g : gp} (w : WT g) {a b : Nat} (h1 : q_K g a = 11) (h2 : q_O g 11 1 a = some b) : q_K g b = 5 := w.1 (11, 1, 5) (by decide) a b h1 h2
theorem wt_11_2 {g : gp} (w : WT g) {a b : Nat} (h1 : q_K g a = 11) (h2 : q_O g 11 2 a = some b) : q_K g b = 6 := w.1 (11, 2, 6) (by decide) a b h1 h2
theorem wt_11_3 {g : gp} (w : WT g) {a b : Nat} (h1 : q_K g a = 11) (h2 : q_O g 11 3 a = some b) : q_K g b = 9 := w.1 (11, 3, 9) (by decide) a b h1 h2
theorem wt_11_4 {g : gp} (w : WT g) {a b : Nat} (h1 : q_K g a = 11) (h2 : q_O g 11 4 a = some b) : q_K g b = 17 := w.1 (11, 4, 17) (by decide) a b h1 h2
theorem wt_11_6 {g : gp} (w : WT g) {a b : Nat} (h1 : q_K g a = 11) (h2 : q_O g 11 6 a = some b) : q_K g b = 16 := w.1 (11, 6, 16) (by decide) a b h1 h2
theorem wt_11_7 {g : gp} (w : WT g) {a b : Nat} (h1 : q_K g a = 11) (h2 : q_O g 11 7 a = some b) : q_K g b = 3 := w.1 (11, 7, 3) (by decide) a b h1 h2
theorem wt_11_8 {g : gp} (w : WT g) {a b : Nat} (h1 : q_K g a = 11) (h2 : q_O g 11 8 a = some b) : q_K g b = 4 := w.1 (11, 8, 4) (by decide) a b h1 h2
theorem wt_11_9 {g : gp} (w : WT g) {a b : Nat} (h1 : q_K g a = 11) (h2 : q_O g 11 9 a = some b) : q_K g b = 10 := w.1 (11, 9, 10) (by decide) a b h1 h2
theorem wt_11_10 {g : gp} (w : WT g) {a b : Nat} (h1 : q_K g a = 11) (h2 : q_O g 11 10 a = some b) : q_K g b = 0 := w.1 (11, 10, 0) (by decide) a b h1 h2
theorem wt_11_11 {g : gp} (w : WT g) {a b : Nat} (h1 : q_K g a = 11) (h2 : q_O g 11 11 a = some b) : q_K g b = 18 := w.1 (11, 11, 18) (by decide) a b h1 h2
theorem wt_11_13 {g : gp} (w : WT g) {a b : Nat} (h1 : q_K g a = 11) (h2 : q_O g 11 13 a = some b) : q_K g b = 13 := w.1 (11, 13, 13) (by decide) a b h1 h2
theorem wt_12_1 {g : gp} (w : WT g) {a b : Nat} (h1 : q_K g a = 12) (h2 : q_O g 12 1 a = some b) : q_K g b = 13 := w.1 (12, 1, 13) (by decide) a b h1 h2
theorem wt_12_9 {g : gp} (w : WT g) {a b : Nat} (h1 : q_K g a = 12) (h2 : q_O g 12 9 a = some b) : q_K g b = 13 := w.1 (12, 9, 13) (by decide) a b h1 h2
theorem wt_12_13 {g : gp} (w : WT g) {a b : Nat} (h1 : q_K g a = 12) (h2 : q_O g 12 13 a = some b) : q_K g b = 13 := w.1 (12, 13, 13) (by decide) a b h1 h2
theorem wt_12_14 {g : gp} (w : WT g) {a b : Nat} (h1 : q_K g a = 12) (h2 : q_O g 12 14 a = some b) : q_K g b = 13 := w.1 (12, 14, 13) (by decide) a b h1 h2
theorem wt_12_15 {g : gp} (w : WT g) {a b : Nat} (h1 : q_K g a = 12) (h2 : q_O g 12 15 a = some b) : q_K g b = 13 := w.1 (12, 15, 13) (by decide) a b h1 h2
theorem wt_12_16 {g : gp} (w : WT g) {a b : Nat} (h1 : q_K g a = 12) (h2 : q_O g 12 16 a = some b) : q_K g b = 13 := w.1 (12, 16, 13) (by decide) a b h1 h2
theorem wt_12_17 {g : gp} (w : WT g) {a b : Nat} (h1 : q_K g a = 12) (h2 : q_O g 12 17 a = some b) : q_K g b = 13 := w.1 (12, 17, 13) (by decide) a b h1 h2
theorem wt_12_19 {g : gp} (w : WT g) {a b : Nat} (h1 : q_K g a = 12) (h2 : q_O g 12 19 a = some b) : q_K g b = 13 := w.1 (12, 19, 13) (by decide) a b h1 h2
theorem wt_12_20 {g : gp} (w : WT g) {a b : Nat} (h1 : q_K g a = 12) (h2 : q_O g 12 20 a = some b) : q_K g b = 13 := w.1 (12, 20, 13) (by decide) a b h1 h2
theorem wt_12_21 {g : gp} (w : WT g) {a b : Nat} (h1 : q_K g a = 12) (h2 : q_O g 12 21 a = some b) : q_K g b = 13 := w.1 (12, 21, 13) (by decide) a b h1 h2
theorem wt_12_22 {g : gp} (w : WT g) {a b : Nat} (h1 : q_K g a = 12) (h2 : q_O g 12 22 a = some b) : q_K g b = 13 := w.1 (12, 22, 13) (by decide) a b h1 h2
theorem wt_12_23 {g : gp} (w : WT g) {a b : Nat} (h1 : q_K g a = 12) (h2 : q_O g 12 23 a = some b) : q_K g b = 13 := w.1 (12, 23, 13) (by decide) a b h1 h2
theorem wt_12_28 {g : gp} (w : WT g) {a b : Nat} (h1 : q_K g a = 12) (h2 : q_O g 12 28 a = some b) : q_K g b = 13 := w.1 (12, 28, 13) (by decide) a b h1 h2
theorem wt_12_29 {g : gp} (w : WT g) {a b : Nat} (h1 : q_K g a = 12) (h2 : q_O g 12 29 a = some b) : q_K g b = 13 := w.1 (12, 29, 13) (by decide) a b h1 h2
theorem wt_12_30 {g : gp} (w : WT g) {a b : Nat} (h1 : q_K g a = 12) (h2 : q_O g 12 30 a = some b) : q_K g b = 13 := w.1 (12, 30, 13) (by decide) a b h1 h2
theorem wt_12_31 {g : gp} (w : WT g) {a b : Nat} (h1 : q_K g a = 12) (h2 : q_O g 12 31 a = some b) : q_K g b = 13 := w.1 (12, 31, 13) (by decide) a b h1 h2
theorem wt_12_32 {g : gp} (w : WT g) {a b : Nat} (h1 : q_K g a = 12) (h2 : q_O g 12 32 a = some b) : q_K g b = 13 := w.1 (12, 32, 13) (by decide) a b h1 h2
theorem wt_12_33 {g : gp} (w : WT g) {a b : Nat} (h1 : q_K g a = 12) (h2 : q_O g 12 33 a = some b) : q_K g b = 13 := w.1 (12, 33, 13) (by decide) a b h1 h2
theorem wt_12_34 {g : gp} (w : WT g) {a b : Nat} (h1 : q_K g a = 12) (h2 : q_O g 12 34 a = some b) : q_K g b = 13 := w.1 (12, 34, 13) (by decide) a b h1 h2
theorem wt_12_35 {g : gp} (w : WT g) {a b : Nat} (h1 : q_K g a = 12) (h2 : q_O g 12 35 a = some b) : q_K g b = 13 := w.1 (12, 35, 13) (by decide) a b h1 h2
theorem wt_12_41 {g : gp} (w : WT g) {a b : Nat} (h1 : q_K g a = 12) (h2 : q_O g 12 41 a = some b) : q_K g b = 13 := w.1 (12, 41, 13) (by decide) a b h1 h2
theorem wt_12_42 {g : gp} (w : WT g) {a b : Nat} (h1 : q_K g a = 12) (h2 : q_O g 12 42 a = some b) : q_K g b = 13 := w.1 (12, 42, 13) (by decide) a b h1 h2
theorem wt_12_43 {g : gp} (w : WT g) {a b : Nat} (h1 : q_K g a = 12) (h2 : q_O g 12 43 a = some b) : q_K g b = 13 := w.1 (12, 43, 13) (by decide) a b h1 h2
theorem wt_12_44 {g : gp} (w : WT g) {a b : Nat} (h1 : q_K g a = 12) (h2 : q_O g 12 44 a = some b) : q_K g b = 13 := w.1 (12, 44, 13) (by decide) a b h1 h2
theorem wt_12_46 {g : gp} (w : WT g) {a b : Nat} (h1 : q_K g a = 12) (h2 : q_O g 12 46 a = some b) : q_K g b = 13 := w.1 (12, 46, 13) (by decide) a b h1 h2
theorem wt_12_48 {g : gp} (w : WT g) {a b : Nat} (h1 : q_K g a = 12) (h2 : q_O g 12 48 a = some b) : q_K g b = 13 := w.1 (12, 48, 13) (by decide) a b h1 h2
theorem wt_12_57 {g : gp} (w : WT g) {a b : Nat} (h1 : q_K g a = 12) (h2 : q_O g 12 57 a = some b) : q_K g b = 13 := w.1 (12, 57, 13) (by decide) a b h1 h2
theorem we_16 {g : gp} (w : WT g) {a i b : Nat} (h1 : q_K g a = 16) (h2 : q_E g a i = some b) : q_K g b = 2 := w.2 (16, 2) (by decide) a i b h1 h2
theorem we_17 {g : gp} (w : WT g) {a i b : Nat} (h1 : q_K g a = 17) (h2 : q_E g a i = some b) : q_K g b = 8 := w.2 (17, 8) (by decide) a i b h1 h2
theorem we_18 {g : gp} (w : WT g) {a i b : Nat} (h1 : q_K g a = 18) (h2 : q_E g a i = some b) : q_K g b = 13 := w.2 (18, 13) (by decide) a i b h1 h2
theorem we_19 {g : gp} (w : WT g) {a i b : Nat} (h1 : q_K g a = 19) (h2 : q_E g a i = some b) : q_K g b = 14 := w.2 (19, 14) (by decide) a i b h1 h2
theorem fl_X7_9 : fld RX7 9 7 0 := ⟨(RX7, TX7, 7), rfl, by decide, by decide, iw_7, rfl, Or.inl (T_1 42 rfl rfl)⟩
theorem fl_X7_15 : fld RX7 15 7 1 := ⟨(RX7, TX7, 7), rfl, by decide, by decide, iw_7, rfl, Or.inl (T_1 43 rfl rfl)⟩
theorem fl_X11_99 : fld RX11 99 7 1 := ⟨(RX7, TX7, 7), rfl, by decide, by decide, iw_7, rfl, Or.inr ⟨"HalvingHouse", N_1 44 rfl rfl⟩⟩
theorem fl_X7_19 : fld RX7 19 7 2 := ⟨(RX7, TX7, 7), rfl, by decide, by decide, iw_7, rfl, Or.inl (T_1 45 rfl rfl)⟩
theorem fl_X7_22 : fld RX7 22 7 3 := ⟨(RX7, TX7, 7), rfl, by decide, by decide, iw_7, rfl, Or.inl (T_1 46 rfl rfl)⟩
theorem fl_X7_25 : fld RX7 25 7 4 := ⟨(RX7, TX7, 7), rfl, by decide, by decide, iw_7, rfl, Or.inl (T_1 47 rfl rfl)⟩
theorem fl_X11_117 : fld RX11 117 7 5 := ⟨(RX7, TX7, 7), rfl, by decide, by decide, iw_7, rfl, Or.inr ⟨"HalvingHouse", N_1 48 rfl rfl⟩⟩
theorem fl_X7_28 : fld RX7 28 7 5 := ⟨(RX7, TX7, 7), rfl, by decide, by decide, iw_7, rfl, Or.inl (T_1 49 rfl rfl)⟩
theorem fl_X11_143 : fld RX11 143 7 6 := ⟨(RX7, TX7, 7), rfl, by decide, by decide, iw_7, rfl, Or.inr ⟨"HalvingHouse", N_1 50 rfl rfl⟩⟩
theorem fl_X7_31 : fld RX7 31 7 6 := ⟨(RX7, TX7, 7), rfl, by decide, by decide, iw_7, rfl, Or.inl (T_1 51 rfl rfl)⟩
theorem fl_X5_11 : fld RX5 11 5 0 := ⟨(RX5, TX5, 3), rfl, by decide, by decide, iw_5, rfl, Or.inl (T_1 74 rfl rfl)⟩
theorem fl_X1_39 : fld RX1 39 5 0 := ⟨(RX5, TX5, 3), rfl, by decide, by decide, iw_5, rfl, Or.inr ⟨"HalvingHouse", N_1 75 rfl rfl⟩⟩
theorem fl_X11_134 : fld RX11 134 5 0 := ⟨(RX5, TX5, 3), rfl, by decide, by decide, iw_5, rfl, Or.inr ⟨"HalvingHouse", N_1 76 rfl rfl⟩⟩
theorem fl_X10_60 : fld RX10 60 5 0 := ⟨(RX5, TX5, 3), rfl, by decide, by decide, iw_5, rfl, Or.inr ⟨"HalvingHouse", N_1 77 rfl rfl⟩⟩
theorem fl_X0_73 : fld RX0 73 5 0 := ⟨(RX5, TX5, 3), rfl, by decide, by decide, iw_5, rfl, Or.inr ⟨"HalvingHouse", N_1 78 rfl rfl⟩⟩
theorem fl_X4_147 : fld RX4 147 5 0 := ⟨(RX5, TX5, 3), rfl, by decide, by decide, iw_5, rfl, Or.inr ⟨"HalvingHouse", N_1 79 rfl rfl⟩⟩
theorem fl_X5_17 : fld RX5 17 5 1 := ⟨(RX5, TX5, 3), rfl, by decide, by decide, iw_5, rfl, Or.inl (T_1 80 rfl rfl)⟩
theorem fl_X11_146 : fld RX11 146 5 1 := ⟨(RX5, TX5, 3), rfl, by decide, by decide, iw_5, rfl, Or.inr ⟨"HalvingHouse", N_1 81 rfl rfl⟩⟩
theorem fl_X5_21 : fld RX5 21 5 2 := ⟨(RX5, TX5, 3), rfl, by decide, by decide, iw_5, rfl, Or.inl (T_1 82 rfl rfl)⟩
theorem fl_X1_73 : fld RX1 73 5 2 := ⟨(RX5, TX5, 3), rfl, by decide, by decide, iw_5, rfl, Or.inr ⟨"HalvingHouse", N_1 83 rfl rfl⟩⟩
theorem fl_X11_150 : fld RX11 150 5 2 := ⟨(RX5, TX5, 3), rfl, by decide, by decide, iw_5, rfl, Or.inr ⟨"HalvingHouse", N_1 84 rfl rfl⟩⟩
theorem fl_X5_24 : fld RX5 24 6 0 := ⟨(RX6, TX6, 4), rfl, by decide, by decide, iw_6, rfl, Or.inr ⟨"HalvingHouse", N_1 98 rfl rfl⟩⟩
theorem fl_X6_15 : fld RX6 15 6 0 := ⟨(RX6, TX6, 4), rfl, by decide, by decide, iw_6, rfl, Or.inl (T_1 99 rfl rfl)⟩
theorem fl_X6_19 : fld RX6 19 6 1 := ⟨(RX6, TX6, 4), rfl, by decide, by decide, iw_6, rfl, Or.inl (T_1 100 rfl rfl)⟩
theorem fl_X5_25 : fld RX5 25 6 1 := ⟨(RX6, TX6, 4), rfl, by decide, by decide, iw_6, rfl, Or.inr ⟨"HalvingHouse", N_1 101 rfl rfl⟩⟩
theorem fl_X6_23 : fld RX6 23 6 2 := ⟨(RX6, TX6, 4), rfl, by decide, by decide, iw_6, rfl, Or.inl (T_1 102 rfl rfl)⟩
theorem fl_X5_26 : fld RX5 26 6 2 := ⟨(RX6, TX6, 4), rfl, by decide, by decide, iw_6, rfl, Or.inr ⟨"HalvingHouse", N_1 103 rfl rfl⟩⟩
theorem fl_X6_11 : fld RX6 11 6 3 := ⟨(RX6, TX6, 4), rfl, by decide, by decide, iw_6, rfl, Or.inl (T_1 104 rfl rfl)⟩
theorem fl_X9_20 : fld RX9 20 9 0 := ⟨(RX9, TX9, 7), rfl, by decide, by decide, iw_9, rfl, Or.inl (T_1 121 rfl rfl)⟩
theorem fl_X9_24 : fld RX9 24 9 1 := ⟨(RX9, TX9, 7), rfl, by decide, by decide, iw_9, rfl, Or.inl (T_1 122 rfl rfl)⟩
theorem fl_X9_31 : fld RX9 31 9 2 := ⟨(RX9, TX9, 7), rfl, by decide, by decide, iw_9, rfl, Or.inl (T_1 123 rfl rfl)⟩
theorem fl_X9_35 : fld RX9 35 9 3 := ⟨(RX9, TX9, 7), rfl, by decide, by decide, iw_9, rfl, Or.inl (T_1 124 rfl rfl)⟩
theorem fl_X9_38 : fld RX9 38 9 4 := ⟨(RX9, TX9, 7), rfl, by decide, by decide, iw_9, rfl, Or.inl (T_1 125 rfl rfl)⟩
theorem fl_X9_11 : fld RX9 11 9 5 := ⟨(RX9, TX9, 7), rfl, by decide, by decide, iw_9, rfl, Or.inl (T_1 126 rfl rfl)⟩
theorem fl_X9_17 : fld RX9 17 9 6 := ⟨(RX9, TX9, 7), rfl, by decide, by decide, iw_9, rfl, Or.inl (T_1 127 rfl rfl)⟩
theorem fl_X3_9 : fld RX3 9 3 0 := ⟨(RX3, TX3, 2), rfl, by decide, by decide, iw_3, rfl, Or.inl (T_1 153 rfl rfl)⟩
theorem fl_X1_19 : fld RX1 19 3 0 := ⟨(RX3, TX3, 2), rfl, by decide, by decide, iw_3, rfl, Or.inr ⟨"HalvingHouse", N_1 154 rfl rfl⟩⟩
theorem fl_X3_15 : fld RX3 15 3 1 := ⟨(RX3, TX3, 2), rfl, by decide, by decide, iw_3, rfl, Or.inl (T_1 155 rfl rfl)⟩
theorem fl_X1_30 : fld RX1 30 3 1 := ⟨(RX3, TX3, 2), rfl, by decide, by decide, iw_3, rfl, Or.inr ⟨"HalvingHouse", N_1 156 rfl rfl⟩⟩
theorem fl_X2_43 : fld RX2 43 3 1 := ⟨(RX3, TX3, 2), rfl, by decide, by decide, iw_3, rfl, Or.inr ⟨"HalvingHouse", N_1 157 rfl rfl⟩⟩
theorem fl_X4_93 : fld RX4 93 3 1 := ⟨(RX3, TX3, 2), rfl, by decide, by decide, iw_3, rfl, Or.inr ⟨"HalvingHouse", N_1 158 rfl rfl⟩⟩
theorem fl_X10_87 : fld RX10 87 3 1 := ⟨(RX3, TX3, 2), rfl, by decide, by decide, iw_3, rfl, Or.inr ⟨"HalvingHouse", N_1 159 rfl rfl⟩⟩
theorem fl_X0_81 : fld RX0 81 3 1 := ⟨(RX3, TX3, 2), rfl, by decide, by decide, iw_3, rfl, Or.inr ⟨"HalvingHouse", N_1 160 rfl rfl⟩⟩
theorem fl_X11_228 : fld RX11 228 3 1 := ⟨(RX3, TX3, 2), rfl, by decide, by decide, iw_3, rfl, Or.inr ⟨"HalvingHouse", N_1 161 rfl rfl⟩⟩
theorem fl_X1_9 : fld RX1 9 1 0 := ⟨(RX1, TX1, 16), rfl, by decide, by decide, iw_1, rfl, Or.inl (T_1 181 rfl rfl)⟩
theorem fl_X1_15 : fld RX1 15 1 1 := ⟨(RX1, TX1, 16), rfl, by decide, by decide, iw_1, rfl, Or.inl (T_1 182 rfl rfl)⟩
theorem fl_X1_25 : fld RX1 25 1 2 := ⟨(RX1, TX1, 16), rfl, by decide, by decide, iw_1, rfl, Or.inl (T_1 183 rfl rfl)⟩
theorem fl_X1_26 : fld RX1 26 1 3 := ⟨(RX1, TX1, 16), rfl, by decide, by decide, iw_1, rfl, Or.inl (T_1 184 rfl rfl)⟩
theorem fl_X1_33 : fld RX1 33 1 4 := ⟨(RX1, TX1, 16), rfl, by decide, by decide, iw_1, rfl, Or.inl (T_1 185 rfl rfl)⟩
theorem fl_X1_36 : fld RX1 36 1 5 := ⟨(RX1, TX1, 16), rfl, by decide, by decide, iw_1, rfl, Or.inl (T_1 186 rfl rfl)⟩
theorem fl_X1_44 : fld RX1 44 1 6 := ⟨(RX1, TX1, 16), rfl, by decide, by decide, iw_1, rfl, Or.inl (T_1 187 rfl rfl)⟩
theorem fl_X1_89 : fld RX1 89 1 7 := ⟨(RX1, TX1, 16), rfl, by decide, by decide, iw_1, rfl, Or.inl (T_1 188 rfl rfl)⟩
theorem fl_X1_47 : fld RX1 47 1 8 := ⟨(RX1, TX1, 16), rfl, by decide, by decide, iw_1, rfl, Or.inl (T_1 189 rfl rfl)⟩
theorem fl_X1_80 : fld RX1 80 1 9 := ⟨(RX1, TX1, 16), rfl, by decide, by decide, iw_1, rfl, Or.inl (T_1 190 rfl rfl)⟩
theorem fl_X1_83 : fld RX1 83 1 10 := ⟨(RX1, TX1, 16), rfl, by decide, by decide, iw_1, rfl, Or.inl (T_1 191 rfl rfl)⟩
theorem fl_X1_96 : fld RX1 96 1 11 := ⟨(RX1, TX1, 16), rfl, by decide, by decide, iw_1, rfl, Or.inl (T_1 192 rfl rfl)⟩
theorem fl_X1_99 : fld RX1 99 1 12 := ⟨(RX1, TX1, 16), rfl, by decide, by decide, iw_1, rfl, Or.inl (T_1 193 rfl rfl)⟩
theorem fl_X1_102 : fld RX1 102 1 13 := ⟨(RX1, TX1, 16), rfl, by decide, by decide, iw_1, rfl, Or.inl (T_1 194 rfl rfl)⟩
theorem fl_X1_105 : fld RX1 105 1 14 := ⟨(RX1, TX1, 16), rfl, by decide, by decide, iw_1, rfl, Or.inl (T_1 195 rfl rfl)⟩
theorem fl_X1_50 : fld RX1 50 1 15 := ⟨(RX1, TX1, 16), rfl, by decide, by decide, iw_1, rfl, Or.inl (T_1 196 rfl rfl)⟩
theorem fl_X4_29 : fld RX4 29 4 0 := ⟨(RX4, TX4, 20), rfl, by decide, by decide, iw_4, rfl, Or.inl (T_1 230 rfl rfl)⟩
theorem fl_X4_14 : fld RX4 14 4 1 := ⟨(RX4, TX4, 20), rfl, by decide, by decide, iw_4, rfl, Or.inl (T_1 231 rfl rfl)⟩
theorem fl_X4_38 : fld RX4 38 4 2 := ⟨(RX4, TX4, 20), rfl, by decide, by decide, iw_4, rfl, Or.inl (T_1 232 rfl rfl)⟩
theorem fl_X4_22 : fld RX4 22 4 3 := ⟨(RX4, TX4, 20), rfl, by decide, by decide, iw_4, rfl, Or.inl (T_1 233 rfl rfl)⟩
theorem fl_X4_26 : fld RX4 26 4 4 := ⟨(RX4, TX4, 20), rfl, by decide, by decide, iw_4, rfl, Or.inl (T_1 234 rfl rfl)⟩
theorem fl_X4_100 : fld RX4 100 4 5 := ⟨(RX4, TX4, 20), rfl, by decide, by decide, iw_4, rfl, Or.inl (T_1 235 rfl rfl)⟩
theorem fl_X4_62 : fld RX4 62 4 6 := ⟨(RX4, TX4, 20), rfl, by decide, by decide, iw_4, rfl, Or.inl (T_1 236 rfl rfl)⟩
theorem fl_X4_103 : fld RX4 103 4 7 := ⟨(RX4, TX4, 20), rfl, by decide, by decide, iw_4, rfl, Or.inl (T_1 237 rfl rfl)⟩
theorem fl_X4_106 : fld RX4 106 4 8 := ⟨(RX4, TX4, 20), rfl, by decide, by decide, iw_4, rfl, Or.inl (T_1 238 rfl rfl)⟩
theorem fl_X4_68 : fld RX4 68 4 9 := ⟨(RX4, TX4, 20), rfl, by decide, by decide, iw_4, rfl, Or.inl (T_1 239 rfl rfl)⟩
theorem fl_X4_75 : fld RX4 75 4 10 := ⟨(RX4, TX4, 20), rfl, by decide, by decide, iw_4, rfl, Or.inl (T_2 0 rfl rfl)⟩
theorem fl_X4_81 : fld RX4 81 4 11 := ⟨(RX4, TX4, 20), rfl, by decide, by decide, iw_4, rfl, Or.inl (T_2 1 rfl rfl)⟩
theorem fl_X11_319 : fld RX11 319 4 11 := ⟨(RX4, TX4, 20), rfl, by decide, by decide, iw_4, rfl, Or.inr ⟨"HalvingHouse", N_2 2 rfl rfl⟩⟩
theorem fl_X4_84 : fld RX4 84 4 12 := ⟨(RX4, TX4, 20), rfl, by decide, by decide, iw_4, rfl, Or.inl (T_2 3 rfl rfl)⟩
theorem fl_X4_78 : fld RX4 78 4 13 := ⟨(RX4, TX4, 20), rfl, by decide, by decide, iw_4, rfl, Or.inl (T_2 4 rfl rfl)⟩
theorem fl_X4_87 : fld RX4 87 4 14 := ⟨(RX4, TX4, 20), rfl, by decide, by decide, iw_4, rfl, Or.inl (T_2 5 rfl rfl)⟩
theorem fl_X4_90 : fld RX4 90 4 15 := ⟨(RX4, TX4, 20), rfl, by decide, by decide, iw_4, rfl, Or.inl (T_2 6 rfl rfl)⟩
theorem fl_X4_42 : fld RX4 42 4 16 := ⟨(RX4, TX4, 20), rfl, by decide, by decide, iw_4, rfl, Or.inl (T_2 7 rfl rfl)⟩
theorem fl_X4_46 : fld RX4 46 4 17 := ⟨(RX4, TX4, 20), rfl, by decide, by decide, iw_4, rfl, Or.inl (T_2 8 rfl rfl)⟩
theorem fl_X4_50 : fld RX4 50 4 18 := ⟨(RX4, TX4, 20), rfl, by decide, by decide, iw_4, rfl, Or.inl (T_2 9 rfl rfl)⟩
theorem fl_X4_53 : fld RX4 53 4 19 := ⟨(RX4, TX4, 20), rfl, by decide, by decide, iw_4, rfl, Or.inl (T_2 10 rfl rfl)⟩
theorem fl_X10_37 : fld RX10 37 10 0 := ⟨(RX10, TX10, 7), rfl, by decide, by decide, iw_10, rfl, Or.inl (T_2 66 rfl rfl)⟩
theorem fl_X10_16 : fld RX10 16 10 1 := ⟨(RX10, TX10, 7), rfl, by decide, by decide, iw_10, rfl, Or.inl (T_2 67 rfl rfl)⟩
theorem fl_X10_46 : fld RX10 46 10 2 := ⟨(RX10, TX10, 7), rfl, by decide, by decide, iw_10, rfl, Or.inl (T_2 68 rfl rfl)⟩
theorem fl_X10_20 : fld RX10 20 10 3 := ⟨(RX10, TX10, 7), rfl, by decide, by decide, iw_10, rfl, Or.inl (T_2 69 rfl rfl)⟩
theorem fl_X10_26 : fld RX10 26 10 4 := ⟨(RX10, TX10, 7), rfl, by decide, by decide, iw_10, rfl, Or.inl (T_2 70 rfl rfl)⟩
theorem fl_X11_239 : fld RX11 239 10 4 := ⟨(RX10, TX10, 7), rfl, by decide, by decide, iw_10, rfl, Or.inr ⟨"HalvingHouse", N_2 71 rfl rfl⟩⟩
theorem fl_X10_29 : fld RX10 29 10 5 := ⟨(RX10, TX10, 7), rfl, by decide, by decide, iw_10, rfl, Or.inl (T_2 72 rfl rfl)⟩
theorem fl_X11_252 : fld RX11 252 10 5 := ⟨(RX10, TX10, 7), rfl, by decide, by decide, iw_10, rfl, Or.inr ⟨"HalvingHouse", N_2 73 rfl rfl⟩⟩
theorem fl_X10_34 : fld RX10 34 10 6 := ⟨(RX10, TX10, 7), rfl, by decide, by decide, iw_10, rfl, Or.inl (T_2 74 rfl rfl)⟩
theorem fl_X11_242 : fld RX11 242 10 6 := ⟨(RX10, TX10, 7), rfl, by decide, by decide, iw_10, rfl, Or.inr ⟨"HalvingHouse", N_2 75 rfl rfl⟩⟩
theorem fl_X0_29 : fld RX0 29 0 0 := ⟨(RX0, TX0, 8), rfl, by decide, by decide, iw_0, rfl, Or.inl (T_2 103 rfl rfl)⟩
theorem fl_X0_16 : fld RX0 16 0 1 := ⟨(RX0, TX0, 8), rfl, by decide, by decide, iw_0, rfl, Or.inl (T_2 104 rfl rfl)⟩
theorem fl_X0_38 : fld RX0 38 0 2 := ⟨(RX0, TX0, 8), rfl, by decide, by decide, iw_0, rfl, Or.inl (T_2 105 rfl rfl)⟩
theorem fl_X0_22 : fld RX0 22 0 3 := ⟨(RX0, TX0, 8), rfl, by decide, by decide, iw_0, rfl, Or.inl (T_2 106 rfl rfl)⟩
theorem fl_X0_42 : fld RX0 42 0 4 := ⟨(RX0, TX0, 8), rfl, by decide, by decide, iw_0, rfl, Or.inl (T_2 107 rfl rfl)⟩
theorem fl_X0_25 : fld RX0 25 0 5 := ⟨(RX0, TX0, 8), rfl, by decide, by decide, iw_0, rfl, Or.inl (T_2 108 rfl rfl)⟩
theorem fl_X0_46 : fld RX0 46 0 6 := ⟨(RX0, TX0, 8), rfl, by decide, by decide, iw_0, rfl, Or.inl (T_2 109 rfl rfl)⟩
theorem fl_X0_60 : fld RX0 60 0 7 := ⟨(RX0, TX0, 8), rfl, by decide, by decide, iw_0, rfl, Or.inl (T_2 110 rfl rfl)⟩
theorem fl_X8_9 : fld RX8 9 8 0 := ⟨(RX8, TX8, 4), rfl, by decide, by decide, iw_8, rfl, Or.inl (T_2 134 rfl rfl)⟩
theorem fl_X4_112 : fld RX4 112 8 0 := ⟨(RX8, TX8, 4), rfl, by decide, by decide, iw_8, rfl, Or.inr ⟨"HalvingHouse", N_2 135 rfl rfl⟩⟩
theorem fl_X8_15 : fld RX8 15 8 1 := ⟨(RX8, TX8, 4), rfl, by decide, by decide, iw_8, rfl, Or.inl (T_2 136 rfl rfl)⟩
theorem fl_X4_109 : fld RX4 109 8 1 := ⟨(RX8, TX8, 4), rfl, by decide, by decide, iw_8, rfl, Or.inr ⟨"HalvingHouse", N_2 137 rfl rfl⟩⟩
theorem fl_X8_18 : fld RX8 18 8 2 := ⟨(RX8, TX8, 4), rfl, by decide, by decide, iw_8, rfl, Or.inl (T_2 138 rfl rfl)⟩
theorem fl_X4_65 : fld RX4 65 8 2 := ⟨(RX8, TX8, 4), rfl, by decide, by decide, iw_8, rfl, Or.inr ⟨"HalvingHouse", N_2 139 rfl rfl⟩⟩
theorem fl_X9_107 : fld RX9 107 8 2 := ⟨(RX8, TX8, 4), rfl, by decide, by decide, iw_8, rfl, Or.inr ⟨"HalvingHouse", N_2 140 rfl rfl⟩⟩
theorem fl_X8_22 : fld RX8 22 8 3 := ⟨(RX8, TX8, 4), rfl, by decide, by decide, iw_8, rfl, Or.inl (T_2 141 rfl rfl)⟩
theorem fl_X11_316 : fld RX11 316 8 3 := ⟨(RX8, TX8, 4), rfl, by decide, by decide, iw_8, rfl, Or.inr ⟨"HalvingHouse", N_2 142 rfl rfl⟩⟩
theorem fl_X2_14 : fld RX2 14 2 0 := ⟨(RX2, TX2, 5), rfl, by decide, by decide, iw_2, rfl, Or.inl (T_2 161 rfl rfl)⟩
theorem fl_X11_163 : fld RX11 163 2 0 := ⟨(RX2, TX2, 5), rfl, by decide, by decide, iw_2, rfl, Or.inr ⟨"HalvingHouse", N_2 162 rfl rfl⟩⟩
theorem fl_X2_32 : fld RX2 32 2 1 := ⟨(RX2, TX2, 5), rfl, by decide, by decide, iw_2, rfl, Or.inl (T_2 163 rfl rfl)⟩
theorem fl_X11_202 : fld RX11 202 2 1 := ⟨(RX2, TX2, 5), rfl, by decide, by decide, iw_2, rfl, Or.inr ⟨"HalvingHouse", N_2 164 rfl rfl⟩⟩
theorem fl_X2_20 : fld RX2 20 2 2 := ⟨(RX2, TX2, 5), rfl, by decide, by decide, iw_2, rfl, Or.inl (T_2 165 rfl rfl)⟩
theorem fl_X2_24 : fld RX2 24 2 3 := ⟨(RX2, TX2, 5), rfl, by decide, by decide, iw_2, rfl, Or.inl (T_2 166 rfl rfl)⟩
theorem fl_X2_39 : fld RX2 39 2 4 := ⟨(RX2, TX2, 5), rfl, by decide, by decide, iw_2, rfl, Or.inl (T_2 167 rfl rfl)⟩
theorem fl_X11_170 : fld RX11 170 2 4 := ⟨(RX2, TX2, 5), rfl, by decide, by decide, iw_2, rfl, Or.inr ⟨"HalvingHouse", N_2 168 rfl rfl⟩⟩
theorem fl_X11_10 : fld RX11 10 11 0 := ⟨(RX11, TX11, 14), rfl, by decide, by decide, iw_11, rfl, Or.inl (T_2 180 rfl rfl)⟩
theorem fl_X11_19 : fld RX11 19 11 1 := ⟨(RX11, TX11, 14), rfl, by decide, by decide, iw_11, rfl, Or.inl (T_2 181 rfl rfl)⟩
theorem fl_X11_26 : fld RX11 26 11 2 := ⟨(RX11, TX11, 14), rfl, by decide, by decide, iw_11, rfl, Or.inl (T_2 182 rfl rfl)⟩
theorem fl_X11_33 : fld RX11 33 11 3 := ⟨(RX11, TX11, 14), rfl, by decide, by decide, iw_11, rfl, Or.inl (T_2 183 rfl rfl)⟩
theorem fl_X11_39 : fld RX11 39 11 4 := ⟨(RX11, TX11, 14), rfl, by decide, by decide, iw_11, rfl, Or.inl (T_2 184 rfl rfl)⟩
theorem fl_X11_137 : fld RX11 137 11 5 := ⟨(RX11, TX11, 14), rfl, by decide, by decide, iw_11, rfl, Or.inl (T_2 185 rfl rfl)⟩
theorem fl_X11_45 : fld RX11 45 11 6 := ⟨(RX11, TX11, 14), rfl, by decide, by decide, iw_11, rfl, Or.inl (T_2 186 rfl rfl)⟩
theorem fl_X11_54 : fld RX11 54 11 7 := ⟨(RX11, TX11, 14), rfl, by decide, by decide, iw_11, rfl, Or.inl (T_2 187 rfl rfl)⟩
theorem fl_X11_63 : fld RX11 63 11 8 := ⟨(RX11, TX11, 14), rfl, by decide, by decide, iw_11, rfl, Or.inl (T_2 188 rfl rfl)⟩
theorem fl_X11_70 : fld RX11 70 11 9 := ⟨(RX11, TX11, 14), rfl, by decide, by decide, iw_11, rfl, Or.inl (T_2 189 rfl rfl)⟩
theorem fl_X11_77 : fld RX11 77 11 10 := ⟨(RX11, TX11, 14), rfl, by decide, by decide, iw_11, rfl, Or.inl (T_2 190 rfl rfl)⟩
theorem fl_X11_83 : fld RX11 83 11 11 := ⟨(RX11, TX11, 14), rfl, by decide, by decide, iw_11, rfl, Or.inl (T_2 191 rfl rfl)⟩
theorem fl_X11_126 : fld RX11 126 11 12 := ⟨(RX11, TX11, 14), rfl, by decide, by decide, iw_11, rfl, Or.inl (T_2 192 rfl rfl)⟩
theorem fl_X11_86 : fld RX11 86 11 13 := ⟨(RX11, TX11, 14), rfl, by decide, by decide, iw_11, rfl, Or.inl (T_2 193 rfl rfl)⟩
theorem fl_X12_1 : fld RX12 1 12 0 := ⟨(RX12, TX12, 60), rfl, by decide, by decide, iw_12, rfl, Or.inl (T_6 172 rfl rfl)⟩
theorem fl_X12_7 : fld RX12 7 12 1 := ⟨(RX12, TX12, 60), rfl, by decide, by decide, iw_12, rfl, Or.inl (T_6 173 rfl rfl)⟩
theorem fl_X12_109 : fld RX12 109 12 2 := ⟨(RX12, TX12, 60), rfl, by decide, by decide, iw_12, rfl, Or.inl (T_6 174 rfl rfl)⟩
theorem fl_X12_121 : fld RX12 121 12 3 := ⟨(RX12, TX12, 60), rfl, by decide, by decide, iw_12, rfl, Or.inl (T_6 175 rfl rfl)⟩
theorem fl_X12_118 : fld RX12 118 12 4 := ⟨(RX12, TX12, 60), rfl, by decide, by decide, iw_12, rfl, Or.inl (T_6 176 rfl rfl)⟩
theorem fl_X12_112 : fld RX12 112 12 5 := ⟨(RX12, TX12, 60), rfl, by decide, by decide, iw_12, rfl, Or.inl (T_6 177 rfl rfl)⟩
theorem fl_X12_115 : fld RX12 115 12 6 := ⟨(RX12, TX12, 60), rfl, by decide, by decide, iw_12, rfl, Or.inl (T_6 178 rfl rfl)⟩
theorem fl_X12_154 : fld RX12 154 12 7 := ⟨(RX12, TX12, 60), rfl, by decide, by decide, iw_12, rfl, Or.inl (T_6 179 rfl rfl)⟩
theorem fl_X12_17 : fld RX12 17 12 8 := ⟨(RX12, TX12, 60), rfl, by decide, by decide, iw_12, rfl, Or.inl (T_6 180 rfl rfl)⟩
theorem fl_X12_20 : fld RX12 20 12 9 := ⟨(RX12, TX12, 60), rfl, by decide, by decide, iw_12, rfl, Or.inl (T_6 181 rfl rfl)⟩
theorem fl_X12_23 : fld RX12 23 12 10 := ⟨(RX12, TX12, 60), rfl, by decide, by decide, iw_12, rfl, Or.inl (T_6 182 rfl rfl)⟩
theorem fl_X12_26 : fld RX12 26 12 11 := ⟨(RX12, TX12, 60), rfl, by decide, by decide, iw_12, rfl, Or.inl (T_6 183 rfl rfl)⟩
theorem fl_X12_29 : fld RX12 29 12 12 := ⟨(RX12, TX12, 60), rfl, by decide, by decide, iw_12, rfl, Or.inl (T_6 184 rfl rfl)⟩
theorem fl_X12_33 : fld RX12 33 12 13 := ⟨(RX12, TX12, 60), rfl, by decide, by decide, iw_12, rfl, Or.inl (T_6 185 rfl rfl)⟩
theorem fl_X12_36 : fld RX12 36 12 14 := ⟨(RX12, TX12, 60), rfl, by decide, by decide, iw_12, rfl, Or.inl (T_6 186 rfl rfl)⟩
theorem fl_X12_39 : fld RX12 39 12 15 := ⟨(RX12, TX12, 60), rfl, by decide, by decide, iw_12, rfl, Or.inl (T_6 187 rfl rfl)⟩
theorem fl_X12_42 : fld RX12 42 12 16 := ⟨(RX12, TX12, 60), rfl, by decide, by decide, iw_12, rfl, Or.inl (T_6 188 rfl rfl)⟩
theorem fl_X12_45 : fld RX12 45 12 17 := ⟨(RX12, TX12, 60), rfl, by decide, by decide, iw_12, rfl, Or.inl (T_6 189 rfl rfl)⟩
theorem fl_X12_196 : fld RX12 196 12 18 := ⟨(RX12, TX12, 60), rfl, by decide, by decide, iw_12, rfl, Or.inl (T_6 190 rfl rfl)⟩
theorem fl_X12_48 : fld RX12 48 12 19 := ⟨(RX12, TX12, 60), rfl, by decide, by decide, iw_12, rfl, Or.inl (T_6 191 rfl rfl)⟩
theorem fl_X12_51 : fld RX12 51 12 20 := ⟨(RX12, TX12, 60), rfl, by decide, by decide, iw_12, rfl, Or.inl (T_6 192 rfl rfl)⟩
theorem fl_X12_54 : fld RX12 54 12 21 := ⟨(RX12, TX12, 60), rfl, by decide, by decide, iw_12, rfl, Or.inl (T_6 193 rfl rfl)⟩
theorem fl_X12_57 : fld RX12 57 12 22 := ⟨(RX12, TX12, 60), rfl, by decide, by decide, iw_12, rfl, Or.inl (T_6 194 rfl rfl)⟩
theorem fl_X12_60 : fld RX12 60 12 23 := ⟨(RX12, TX12, 60), rfl, by decide, by decide, iw_12, rfl, Or.inl (T_6 195 rfl rfl)⟩
theorem fl_X12_199 : fld RX12 199 12 24 := ⟨(RX12, TX12, 60), rfl, by decide, by decide, iw_12, rfl, Or.inl (T_6 196 rfl rfl)⟩
theorem fl_X12_241 : fld RX12 241 12 25 := ⟨(RX12, TX12, 60), rfl, by decide, by decide, iw_12, rfl, Or.inl (T_6 197 rfl rfl)⟩
theorem fl_X12_202 : fld RX12 202 12 26 := ⟨(RX12, TX12, 60), rfl, by decide, by decide, iw_12, rfl, Or.inl (T_6 198 rfl rfl)⟩
theorem fl_X12_244 : fld RX12 244 12 27 := ⟨(RX12, TX12, 60), rfl, by decide, by decide, iw_12, rfl, Or.inl (T_6 199 rfl rfl)⟩
theorem fl_X12_63 : fld RX12 63 12 28 := ⟨(RX12, TX12, 60), rfl, by decide, by decide, iw_12, rfl, Or.inl (T_6 200 rfl rfl)⟩
theorem fl_X12_66 : fld RX12 66 12 29 := ⟨(RX12, TX12, 60), rfl, by decide, by decide, iw_12, rfl, Or.inl (T_6 201 rfl rfl)⟩
theorem fl_X12_69 : fld RX12 69 12 30 := ⟨(RX12, TX12, 60), rfl, by decide, by decide, iw_12, rfl, Or.inl (T_6 202 rfl rfl)⟩
theorem fl_X12_72 : fld RX12 72 12 31 := ⟨(RX12, TX12, 60), rfl, by decide, by decide, iw_12, rfl, Or.inl (T_6 203 rfl rfl)⟩
theorem fl_X12_75 : fld RX12 75 12 32 := ⟨(RX12, TX12, 60), rfl, by decide, by decide, iw_12, rfl, Or.inl (T_6 204 rfl rfl)⟩
theorem fl_X12_78 : fld RX12 78 12 33 := ⟨(RX12, TX12, 60), rfl, by decide, by decide, iw_12, rfl, Or.inl (T_6 205 rfl rfl)⟩
theorem fl_X12_81 : fld RX12 81 12 34 := ⟨(RX12, TX12, 60), rfl, by decide, by decide, iw_12, rfl, Or.inl (T_6 206 rfl rfl)⟩
theorem fl_X12_84 : fld RX12 84 12 35 := ⟨(RX12, TX12, 60), rfl, by decide, by decide, iw_12, rfl, Or.inl (T_6 207 rfl rfl)⟩
theorem fl_X12_290 : fld RX12 290 12 36 := ⟨(RX12, TX12, 60), rfl, by decide, by decide, iw_12, rfl, Or.inl (T_6 208 rfl rfl)⟩
theorem fl_X12_356 : fld RX12 356 12 37 := ⟨(RX12, TX12, 60), rfl, by decide, by decide, iw_12, rfl, Or.inl (T_6 209 rfl rfl)⟩
theorem fl_X12_359 : fld RX12 359 12 38 := ⟨(RX12, TX12, 60), rfl, by decide, by decide, iw_12, rfl, Or.inl (T_6 210 rfl rfl)⟩
theorem fl_X12_362 : fld RX12 362 12 39 := ⟨(RX12, TX12, 60), rfl, by decide, by decide, iw_12, rfl, Or.inl (T_6 211 rfl rfl)⟩
theorem fl_X12_87 : fld RX12 87 12 41 := ⟨(RX12, TX12, 60), rfl, by decide, by decide, iw_12, rfl, Or.inl (T_6 212 rfl rfl)⟩
theorem fl_X12_90 : fld RX12 90 12 42 := ⟨(RX12, TX12, 60), rfl, by decide, by decide, iw_12, rfl, Or.inl (T_6 213 rfl rfl)⟩
theorem fl_X12_94 : fld RX12 94 12 43 := ⟨(RX12, TX12, 60), rfl, by decide, by decide, iw_12, rfl, Or.inl (T_6 214 rfl rfl)⟩
theorem fl_X12_97 : fld RX12 97 12 44 := ⟨(RX12, TX12, 60), rfl, by decide, by decide, iw_12, rfl, Or.inl (T_6 215 rfl rfl)⟩
theorem fl_X12_391 : fld RX12 391 12 45 := ⟨(RX12, TX12, 60), rfl, by decide, by decide, iw_12, rfl, Or.inl (T_6 216 rfl rfl)⟩
theorem fl_X12_100 : fld RX12 100 12 46 := ⟨(RX12, TX12, 60), rfl, by decide, by decide, iw_12, rfl, Or.inl (T_6 217 rfl rfl)⟩
theorem fl_X12_406 : fld RX12 406 12 47 := ⟨(RX12, TX12, 60), rfl, by decide, by decide, iw_12, rfl, Or.inl (T_6 218 rfl rfl)⟩
theorem fl_X12_103 : fld RX12 103 12 48 := ⟨(RX12, TX12, 60), rfl, by decide, by decide, iw_12, rfl, Or.inl (T_6 219 rfl rfl)⟩
theorem fl_X12_433 : fld RX12 433 12 49 := ⟨(RX12, TX12, 60), rfl, by decide, by decide, iw_12, rfl, Or.inl (T_6 220 rfl rfl)⟩
theorem fl_X12_430 : fld RX12 430 12 50 := ⟨(RX12, TX12, 60), rfl, by decide, by decide, iw_12, rfl, Or.inl (T_6 221 rfl rfl)⟩
theorem fl_X12_438 : fld RX12 438 12 51 := ⟨(RX12, TX12, 60), rfl, by decide, by decide, iw_12, rfl, Or.inl (T_6 222 rfl rfl)⟩
theorem fl_X12_444 : fld RX12 444 12 52 := ⟨(RX12, TX12, 60), rfl, by decide, by decide, iw_12, rfl, Or.inl (T_6 223 rfl rfl)⟩
theorem fl_X12_447 : fld RX12 447 12 53 := ⟨(RX12, TX12, 60), rfl, by decide, by decide, iw_12, rfl, Or.inl (T_6 224 rfl rfl)⟩
theorem fl_X12_450 : fld RX12 450 12 54 := ⟨(RX12, TX12, 60), rfl, by decide, by decide, iw_12, rfl, Or.inl (T_6 225 rfl rfl)⟩
theorem fl_X12_453 : fld RX12 453 12 55 := ⟨(RX12, TX12, 60), rfl, by decide, by decide, iw_12, rfl, Or.inl (T_6 226 rfl rfl)⟩
theorem fl_X12_456 : fld RX12 456 12 56 := ⟨(RX12, TX12, 60), rfl, by decide, by decide, iw_12, rfl, Or.inl (T_6 227 rfl rfl)⟩
theorem fl_X12_106 : fld RX12 106 12 57 := ⟨(RX12, TX12, 60), rfl, by decide, by decide, iw_12, rfl, Or.inl (T_6 228 rfl rfl)⟩
theorem fl_X12_427 : fld RX12 427 12 58 := ⟨(RX12, TX12, 60), rfl, by decide, by decide, iw_12, rfl, Or.inl (T_6 229 rfl rfl)⟩
theorem fl_X12_465 : fld RX12 465 12 59 := ⟨(RX12, TX12, 60), rfl, by decide, by decide, iw_12, rfl, Or.inl (T_6 230 rfl rfl)⟩
theorem ir_0_0 : i_r 0 0 = true := (by decide +kernel)
theorem id_0_0 : i_d 0 0 = false := (by decide +kernel)
theorem ir_0_1 : i_r 0 1 = true := (by decide +kernel)
theorem id_0_1 : i_d 0 1 = false := (by decide +kernel)
theorem ir_0_2 : i_r 0 2 = true := (by decide +kernel)
theorem id_0_2 : i_d 0 2 = false := (by decide +kernel)
theorem ir_0_3 : i_r 0 3 = true := (by decide +kernel)
theorem id_0_3 : i_d 0 3 = false := (by decide +kernel)
theorem ir_0_4 : i_r 0 4 = false := (by decide +kernel)
theorem flw_0_4 : flw 0 4 .boolean := ⟨(RX0, TX0, 8), tyX0, rfl, tyX0_ok, nmX0, rfl, (by decide +kernel)⟩
theorem ir_0_5 : i_r 0 5 = true := (by decide +kernel)
theorem id_0_5 : i_d 0 5 = false := (by decide +kernel)
theorem ir_0_6 : i_r 0 6 = false := (by decide +kernel)
theorem flw_0_6 : flw 0 6 .int := ⟨(RX0, TX0, 8), tyX0, rfl, tyX0_ok, nmX0, rfl, (by decide +kernel)⟩
theorem ir_0_7 : i_r 0 7 = false := (by decide +kernel)
theorem flw_0_7 : flw 0 7 .int := ⟨(RX0, TX0, 8), tyX0, rfl, tyX0_ok, nmX0, rfl, (by decide +kernel)⟩
theorem ir_1_0 : i_r 1 0 = true := (by decide +kernel)
theorem id_1_0 : i_d 1 0 = false := (by decide +kernel)
theorem ir_1_1 : i_r 1 1 = true := (by decide +kernel)
theorem id_1_1 : i_d 1 1 = false := (by decide +kernel)
theorem ir_1_2 : i_r 1 2 = true := (by decide +kernel)
theorem id_1_2 : i_d 1 2 = false := (by decide +kernel)
theorem ir_1_3 : i_r 1 3 = false := (by decide +kernel)
theorem flw_1_3 : flw 1 3 .int := ⟨(RX1, TX1, 16), tyX1, rfl, tyX1_ok, nmX1, rfl, (by decide +kernel)⟩
theorem ir_1_4 : i_r 1 4 = false := (by decide +kernel)
theorem flw_1_4 : flw 1 4 .int := ⟨(RX1, TX1, 16), tyX1, rfl, tyX1_ok, nmX1, rfl, (by decide +kernel)⟩
theorem ir_1_5 : i_r 1 5 = false := (by decide +kernel)
theorem flw_1_5 : flw 1 5 .int := ⟨(RX1, TX1, 16), tyX1, rfl, tyX1_ok, nmX1, rfl, (by decide +kernel)⟩
theorem ir_1_6 : i_r 1 6 = false := (by decide +kernel)
theorem flw_1_6 : flw 1 6 .int := ⟨(RX1, TX1, 16), tyX1, rfl, tyX1_ok, nmX1, rfl, (by decide +kernel)⟩
theorem ir_1_7 : i_r 1 7 = false := (by decide +kernel)
theorem flw_1_7 : flw 1 7 .int := ⟨(RX1, TX1, 16), tyX1, rfl, tyX1_ok, nmX1, rfl, (by decide +kernel)⟩
theorem ir_1_8 : i_r 1 8 = false := (by decide +kernel)
theorem flw_1_8 : flw 1 8 .int := ⟨(RX1, TX1, 16), tyX1, rfl, tyX1_ok, nmX1, rfl, (by decide +kernel)⟩
theorem ir_1_9 : i_r 1 9 = false := (by decide +kernel)
theorem flw_1_9 : flw 1 9 .int := ⟨(RX1, TX1, 16), tyX1, rfl, tyX1_ok, nmX1, rfl, (by decide +kernel)⟩
theorem ir_1_10 : i_r 1 10 = false := (by decide +kernel)
theorem flw_1_10 : flw 1 10 .int := ⟨(RX1, TX1, 16), tyX1, rfl, tyX1_ok, nmX1, rfl, (by decide +kernel)⟩
theorem ir_1_11 : i_r 1 11 = false := (by decide +kernel)
theorem flw_1_11 : flw 1 11 .int := ⟨(RX1, TX1, 16), tyX1, rfl, tyX1_ok, nmX1, rfl, (by decide +kernel)⟩
theorem ir_1_12 : i_r 1 12 = false := (by decide +kernel)
theorem flw_1_12 : flw 1 12 .int := ⟨(RX1, TX1, 16), tyX1, rfl, tyX1_ok, nmX1, rfl, (by decide +kernel)⟩
theorem ir_1_13 : i_r 1 13 = false := (by decide +kernel)
theorem flw_1_13 : flw 1 13 .int := ⟨(RX1, TX1, 16), tyX1, rfl, tyX1_ok, nmX1, rfl, (by decide +kernel)⟩
theorem ir_1_14 : i_r 1 14 = false := (by decide +kernel)
theorem flw_1_14 : flw 1 14 .int := ⟨(RX1, TX1, 16), tyX1, rfl, tyX1_ok, nmX1, rfl, (by decide +kernel)⟩
theorem ir_1_15 : i_r 1 15 = false := (by decide +kernel)
theorem flw_1_15 : flw 1 15 .boolean := ⟨(RX1, TX1, 16), tyX1, rfl, tyX1_ok, nmX1, rfl, (by decide +kernel)⟩
theorem ir_2_0 : i_r 2 0 = true := (by decide +kernel)
theorem id_2_0 : i_d 2 0 = false := (by decide +kernel)
theorem ir_2_1 : i_r 2 1 = true := (by decide +kernel)
theorem id_2_1 : i_d 2 1 = false := (by decide +kernel)
theorem ir_2_2 : i_r 2 2 = true := (by decide +kernel)
theorem id_2_2 : i_d 2 2 = false := (by decide +kernel)
theorem ir_2_3 : i_r 2 3 = true := (by decide +kernel)
theorem id_2_3 : i_d 2 3 = false := (by decide +kernel)
theorem ir_2_4 : i_r 2 4 = false := (by decide +kernel)
theorem flw_2_4 : flw 2 4 .int := ⟨(RX2, TX2, 5), tyX2, rfl, tyX2_ok, nmX2, rfl, (by decide +kernel)⟩
theorem ir_3_0 : i_r 3 0 = true := (by decide +kernel)
theorem id_3_0 : i_d 3 0 = false := (by decide +kernel)
theorem ir_3_1 : i_r 3 1 = false := (by decide +kernel)
theorem flw_3_1 : flw 3 1 .int := ⟨(RX3, TX3, 2), tyX3, rfl, tyX3_ok, nmX3, rfl, (by decide +kernel)⟩
theorem ir_4_0 : i_r 4 0 = true := (by decide +kernel)
theorem id_4_0 : i_d 4 0 = false := (by decide +kernel)
theorem ir_4_1 : i_r 4 1 = true := (by decide +kernel)
theorem id_4_1 : i_d 4 1 = false := (by decide +kernel)
theorem ir_4_2 : i_r 4 2 = true := (by decide +kernel)
theorem id_4_2 : i_d 4 2 = false := (by decide +kernel)
theorem ir_4_3 : i_r 4 3 = true := (by decide +kernel)
theorem id_4_3 : i_d 4 3 = false := (by decide +kernel)
theorem ir_4_4 : i_r 4 4 = true := (by decide +kernel)
theorem id_4_4 : i_d 4 4 = false := (by decide +kernel)
theorem ir_4_5 : i_r 4 5 = false := (by decide +kernel)
theorem flw_4_5 : flw 4 5 .int := ⟨(RX4, TX4, 20), tyX4, rfl, tyX4_ok, nmX4, rfl, (by decide +kernel)⟩
theorem ir_4_6 : i_r 4 6 = false := (by decide +kernel)
theorem flw_4_6 : flw 4 6 .int := ⟨(RX4, TX4, 20), tyX4, rfl, tyX4_ok, nmX4, rfl, (by decide +kernel)⟩
theorem ir_4_7 : i_r 4 7 = false := (by decide +kernel)
theorem flw_4_7 : flw 4 7 .int := ⟨(RX4, TX4, 20), tyX4, rfl, tyX4_ok, nmX4, rfl, (by decide +kernel)⟩
theorem ir_4_8 : i_r 4 8 = false := (by decide +kernel)
theorem flw_4_8 : flw 4 8 .int := ⟨(RX4, TX4, 20), tyX4, rfl, tyX4_ok, nmX4, rfl, (by decide +kernel)⟩
theorem ir_4_9 : i_r 4 9 = false := (by decide +kernel)
theorem flw_4_9 : flw 4 9 .boolean := ⟨(RX4, TX4, 20), tyX4, rfl, tyX4_ok, nmX4, rfl, (by decide +kernel)⟩
theorem ir_4_10 : i_r 4 10 = false := (by decide +kernel)
theorem flw_4_10 : flw 4 10 .int := ⟨(RX4, TX4, 20), tyX4, rfl, tyX4_ok, nmX4, rfl, (by decide +kernel)⟩
theorem ir_4_11 : i_r 4 11 = false := (by decide +kernel)
theorem flw_4_11 : flw 4 11 .int := ⟨(RX4, TX4, 20), tyX4, rfl, tyX4_ok, nmX4, rfl, (by decide +kernel)⟩
theorem ir_4_12 : i_r 4 12 = false := (by decide +kernel)
theorem flw_4_12 : flw 4 12 .int := ⟨(RX4, TX4, 20), tyX4, rfl, tyX4_ok, nmX4, rfl, (by decide +kernel)⟩
theorem ir_4_13 : i_r 4 13 = false := (by decide +kernel)
theorem flw_4_13 : flw 4 13 .int := ⟨(RX4, TX4, 20), tyX4, rfl, tyX4_ok, nmX4, rfl, (by decide +kernel)⟩
theorem ir_4_14 : i_r 4 14 = false := (by decide +kernel)
theorem flw_4_14 : flw 4 14 .int := ⟨(RX4, TX4, 20), tyX4, rfl, tyX4_ok, nmX4, rfl, (by decide +kernel)⟩
theorem ir_4_15 : i_r 4 15 = false := (by decide +kernel)
theorem flw_4_15 : flw 4 15 .int := ⟨(RX4, TX4, 20), tyX4, rfl, tyX4_ok, nmX4, rfl, (by decide +kernel)⟩
theorem ir_4_16 : i_r 4 16 = false := (by decide +kernel)
theorem flw_4_16 : flw 4 16 .boolean := ⟨(RX4, TX4, 20), tyX4, rfl, tyX4_ok, nmX4, rfl, (by decide +kernel)⟩
theorem ir_4_17 : i_r 4 17 = true := (by decide +kernel)
theorem id_4_17 : i_d 4 17 = true := (by decide +kernel)
theorem flw_4_17 : flw 4 17 (.object "HalvingHouse$Thief") := ⟨(RX4, TX4, 20), tyX4, rfl, tyX4_ok, nmX4, rfl, (by decide +kernel)⟩
theorem ir_4_18 : i_r 4 18 = true := (by decide +kernel)
theorem id_4_18 : i_d 4 18 = true := (by decide +kernel)
theorem flw_4_18 : flw 4 18 (.object "HalvingHouse$Numbers") := ⟨(RX4, TX4, 20), tyX4, rfl, tyX4_ok, nmX4, rfl, (by decide +kernel)⟩
theorem ir_4_19 : i_r 4 19 = false := (by decide +kernel)
theorem flw_4_19 : flw 4 19 .int := ⟨(RX4, TX4, 20), tyX4, rfl, tyX4_ok, nmX4, rfl, (by decide +kernel)⟩
theorem ir_5_0 : i_r 5 0 = false := (by decide +kernel)
theorem flw_5_0 : flw 5 0 .int := ⟨(RX5, TX5, 3), tyX5, rfl, tyX5_ok, nmX5, rfl, (by decide +kernel)⟩
theorem ir_5_1 : i_r 5 1 = false := (by decide +kernel)
theorem flw_5_1 : flw 5 1 .boolean := ⟨(RX5, TX5, 3), tyX5, rfl, tyX5_ok, nmX5, rfl, (by decide +kernel)⟩
theorem ir_5_2 : i_r 5 2 = false := (by decide +kernel)
theorem flw_5_2 : flw 5 2 .int := ⟨(RX5, TX5, 3), tyX5, rfl, tyX5_ok, nmX5, rfl, (by decide +kernel)⟩
theorem ir_6_0 : i_r 6 0 = false := (by decide +kernel)
theorem flw_6_0 : flw 6 0 .int := ⟨(RX6, TX6, 4), tyX6, rfl, tyX6_ok, nmX6, rfl, (by decide +kernel)⟩
theorem ir_6_1 : i_r 6 1 = false := (by decide +kernel)
theorem flw_6_1 : flw 6 1 .boolean := ⟨(RX6, TX6, 4), tyX6, rfl, tyX6_ok, nmX6, rfl, (by decide +kernel)⟩
theorem ir_6_2 : i_r 6 2 = false := (by decide +kernel)
theorem flw_6_2 : flw 6 2 .int := ⟨(RX6, TX6, 4), tyX6, rfl, tyX6_ok, nmX6, rfl, (by decide +kernel)⟩
theorem ir_6_3 : i_r 6 3 = true := (by decide +kernel)
theorem id_6_3 : i_d 6 3 = false := (by decide +kernel)
theorem ir_7_0 : i_r 7 0 = true := (by decide +kernel)
theorem id_7_0 : i_d 7 0 = false := (by decide +kernel)
theorem ir_7_1 : i_r 7 1 = false := (by decide +kernel)
theorem flw_7_1 : flw 7 1 .int := ⟨(RX7, TX7, 7), tyX7, rfl, tyX7_ok, nmX7, rfl, (by decide +kernel)⟩
theorem ir_7_2 : i_r 7 2 = false := (by decide +kernel)
theorem flw_7_2 : flw 7 2 .int := ⟨(RX7, TX7, 7), tyX7, rfl, tyX7_ok, nmX7, rfl, (by decide +kernel)⟩
theorem ir_7_3 : i_r 7 3 = false := (by decide +kernel)
theorem flw_7_3 : flw 7 3 .int := ⟨(RX7, TX7, 7), tyX7, rfl, tyX7_ok, nmX7, rfl, (by decide +kernel)⟩
theorem ir_7_4 : i_r 7 4 = false := (by decide +kernel)
theorem flw_7_4 : flw 7 4 .int := ⟨(RX7, TX7, 7), tyX7, rfl, tyX7_ok, nmX7, rfl, (by decide +kernel)⟩
theorem ir_7_5 : i_r 7 5 = false := (by decide +kernel)
theorem flw_7_5 : flw 7 5 .int := ⟨(RX7, TX7, 7), tyX7, rfl, tyX7_ok, nmX7, rfl, (by decide +kernel)⟩
theorem ir_7_6 : i_r 7 6 = false := (by decide +kernel)
theorem flw_7_6 : flw 7 6 .int := ⟨(RX7, TX7, 7), tyX7, rfl, tyX7_ok, nmX7, rfl, (by decide +kernel)⟩
theorem ir_8_0 : i_r 8 0 = true := (by decide +kernel)
theorem id_8_0 : i_d 8 0 = false := (by decide +kernel)
theorem ir_8_1 : i_r 8 1 = true := (by decide +kernel)
theorem id_8_1 : i_d 8 1 = false := (by decide +kernel)
theorem ir_8_2 : i_r 8 2 = false := (by decide +kernel)
theorem flw_8_2 : flw 8 2 .int := ⟨(RX8, TX8, 4), tyX8, rfl, tyX8_ok, nmX8, rfl, (by decide +kernel)⟩
theorem ir_8_3 : i_r 8 3 = false := (by decide +kernel)
theorem flw_8_3 : flw 8 3 .boolean := ⟨(RX8, TX8, 4), tyX8, rfl, tyX8_ok, nmX8, rfl, (by decide +kernel)⟩
theorem ir_9_0 : i_r 9 0 = true := (by decide +kernel)
theorem id_9_0 : i_d 9 0 = true := (by decide +kernel)
theorem flw_9_0 : flw 9 0 (.object "HalvingHouse$Tape") := ⟨(RX9, TX9, 7), tyX9, rfl, tyX9_ok, nmX9, rfl, (by decide +kernel)⟩
theorem ir_9_1 : i_r 9 1 = true := (by decide +kernel)
theorem id_9_1 : i_d 9 1 = true := (by decide +kernel)
theorem flw_9_1 : flw 9 1 (.object "HalvingHouse$Thief") := ⟨(RX9, TX9, 7), tyX9, rfl, tyX9_ok, nmX9, rfl, (by decide +kernel)⟩
theorem ir_9_2 : i_r 9 2 = false := (by decide +kernel)
theorem flw_9_2 : flw 9 2 .int := ⟨(RX9, TX9, 7), tyX9, rfl, tyX9_ok, nmX9, rfl, (by decide +kernel)⟩
theorem ir_9_3 : i_r 9 3 = false := (by decide +kernel)
theorem flw_9_3 : flw 9 3 .int := ⟨(RX9, TX9, 7), tyX9, rfl, tyX9_ok, nmX9, rfl, (by decide +kernel)⟩
theorem ir_9_4 : i_r 9 4 = false := (by decide +kernel)
theorem flw_9_4 : flw 9 4 .int := ⟨(RX9, TX9, 7), tyX9, rfl, tyX9_ok, nmX9, rfl, (by decide +kernel)⟩
theorem ir_9_5 : i_r 9 5 = true := (by decide +kernel)
theorem id_9_5 : i_d 9 5 = false := (by decide +kernel)
theorem ir_9_6 : i_r 9 6 = true := (by decide +kernel)
theorem id_9_6 : i_d 9 6 = false := (by decide +kernel)
theorem ir_10_0 : i_r 10 0 = true := (by decide +kernel)
theorem id_10_0 : i_d 10 0 = false := (by decide +kernel)
theorem ir_10_1 : i_r 10 1 = true := (by decide +kernel)
theorem id_10_1 : i_d 10 1 = false := (by decide +kernel)
theorem ir_10_2 : i_r 10 2 = true := (by decide +kernel)
theorem id_10_2 : i_d 10 2 = false := (by decide +kernel)
theorem ir_10_3 : i_r 10 3 = true := (by decide +kernel)
theorem id_10_3 : i_d 10 3 = false := (by decide +kernel)
theorem ir_10_4 : i_r 10 4 = true := (by decide +kernel)
theorem id_10_4 : i_d 10 4 = false := (by decide +kernel)
theorem ir_10_5 : i_r 10 5 = true := (by decide +kernel)
theorem id_10_5 : i_d 10 5 = false := (by decide +kernel)
theorem ir_10_6 : i_r 10 6 = true := (by decide +kernel)
theorem id_10_6 : i_d 10 6 = false := (by decide +kernel)
theorem ir_11_0 : i_r 11 0 = true := (by decide +kernel)
theorem id_11_0 : i_d 11 0 = false := (by decide +kernel)
theorem ir_11_1 : i_r 11 1 = true := (by decide +kernel)
theorem id_11_1 : i_d 11 1 = false := (by decide +kernel)
theorem ir_11_2 : i_r 11 2 = true := (by decide +kernel)
theorem id_11_2 : i_d 11 2 = false := (by decide +kernel)
theorem ir_11_3 : i_r 11 3 = true := (by decide +kernel)
theorem id_11_3 : i_d 11 3 = false := (by decide +kernel)
theorem ir_11_4 : i_r 11 4 = true := (by decide +kernel)
theorem id_11_4 : i_d 11 4 = false := (by decide +kernel)
theorem ir_11_5 : i_r 11 5 = false := (by decide +kernel)
theorem flw_11_5 : flw 11 5 .int := ⟨(RX11, TX11, 14), tyX11, rfl, tyX11_ok, nmX11, rfl, (by decide +kernel)⟩
theorem ir_11_6 : i_r 11 6 = true := (by decide +kernel)
theorem id_11_6 : i_d 11 6 = false := (by decide +kernel)
theorem ir_11_7 : i_r 11 7 = true := (by decide +kernel)
theorem id_11_7 : i_d 11 7 = false := (by decide +kernel)
theorem ir_11_8 : i_r 11 8 = true := (by decide +kernel)
theorem id_11_8 : i_d 11 8 = false := (by decide +kernel)
theorem ir_11_9 : i_r 11 9 = true := (by decide +kernel)
theorem id_11_9 : i_d 11 9 = false := (by decide +kernel)
theorem ir_11_10 : i_r 11 10 = true := (by decide +kernel)
theorem id_11_10 : i_d 11 10 = false := (by decide +kernel)
theorem ir_11_11 : i_r 11 11 = true := (by decide +kernel)
theorem id_11_11 : i_d 11 11 = false := (by decide +kernel)
theorem ir_11_12 : i_r 11 12 = false := (by decide +kernel)
theorem flw_11_12 : flw 11 12 .int := ⟨(RX11, TX11, 14), tyX11, rfl, tyX11_ok, nmX11, rfl, (by decide +kernel)⟩
theorem ir_11_13 : i_r 11 13 = true := (by decide +kernel)
theorem id_11_13 : i_d 11 13 = false := (by decide +kernel)
theorem ir_12_0 : i_r 12 0 = false := (by decide +kernel)
theorem flw_12_0 : flw 12 0 .int := ⟨(RX12, TX12, 60), tyX12, rfl, tyX12_ok, nmX12, rfl, (by decide +kernel)⟩
theorem ir_12_1 : i_r 12 1 = true := (by decide +kernel)
theorem id_12_1 : i_d 12 1 = false := (by decide +kernel)
theorem ir_12_2 : i_r 12 2 = false := (by decide +kernel)
theorem flw_12_2 : flw 12 2 .int := ⟨(RX12, TX12, 60), tyX12, rfl, tyX12_ok, nmX12, rfl, (by decide +kernel)⟩
theorem ir_12_3 : i_r 12 3 = false := (by decide +kernel)
theorem flw_12_3 : flw 12 3 .int := ⟨(RX12, TX12, 60), tyX12, rfl, tyX12_ok, nmX12, rfl, (by decide +kernel)⟩
theorem ir_12_4 : i_r 12 4 = false := (by decide +kernel)
theorem flw_12_4 : flw 12 4 .int := ⟨(RX12, TX12, 60), tyX12, rfl, tyX12_ok, nmX12, rfl, (by decide +kernel)⟩
theorem ir_12_5 : i_r 12 5 = false := (by decide +kernel)
theorem flw_12_5 : flw 12 5 .int := ⟨(RX12, TX12, 60), tyX12, rfl, tyX12_ok, nmX12, rfl, (by decide +kernel)⟩
theorem ir_12_6 : i_r 12 6 = false := (by decide +kernel)
theorem flw_12_6 : flw 12 6 .int := ⟨(RX12, TX12, 60), tyX12, rfl, tyX12_ok, nmX12, rfl, (by decide +kernel)⟩
theorem ir_12_7 : i_r 12 7 = false := (by decide +kernel)
theorem flw_12_7 : flw 12 7 .int := ⟨(RX12, TX12, 60), tyX12, rfl, tyX12_ok, nmX12, rfl, (by decide +kernel)⟩
theorem ir_12_8 : i_r 12 8 = false := (by decide +kernel)
theorem flw_12_8 : flw 12 8 .int := ⟨(RX12, TX12, 60), tyX12, rfl, tyX12_ok, nmX12, rfl, (by decide +kernel)⟩
theorem ir_12_9 : i_r 12 9 = true := (by decide +kernel)
theorem id_12_9 : i_d 12 9 = false := (by decide +kernel)
theorem ir_12_10 : i_r 12 10 = false := (by decide +kernel)
theorem flw_12_10 : flw 12 10 .int := ⟨(RX12, TX12, 60), tyX12, rfl, tyX12_ok, nmX12, rfl, (by decide +kernel)⟩
theorem ir_12_11 : i_r 12 11 = false := (by decide +kernel)
theorem flw_12_11 : flw 12 11 .int := ⟨(RX12, TX12, 60), tyX12, rfl, tyX12_ok, nmX12, rfl, (by decide +kernel)⟩
theorem ir_12_12 : i_r 12 12 = false := (by decide +kernel)
theorem flw_12_12 : flw 12 12 .boolean := ⟨(RX12, TX12, 60), tyX12, rfl, tyX12_ok, nmX12, rfl, (by decide +kernel)⟩
theorem ir_12_13 : i_r 12 13 = true := (by decide +kernel)
theorem id_12_13 : i_d 12 13 = false := (by decide +kernel)
theorem ir_12_14 : i_r 12 14 = true := (by decide +kernel)
theorem id_12_14 : i_d 12 14 = false := (by decide +kernel)
theorem ir_12_15 : i_r 12 15 = true := (by decide +kernel)
theorem id_12_15 : i_d 12 15 = false := (by decide +kernel)
theorem ir_12_16 : i_r 12 16 = true := (by decide +kernel)
theorem id_12_16 : i_d 12 16 = false := (by decide +kernel)
theorem ir_12_17 : i_r 12 17 = true := (by decide +kernel)
theorem id_12_17 : i_d 12 17 = false := (by decide +kernel)
theorem ir_12_18 : i_r 12 18 = false := (by decide +kernel)
theorem flw_12_18 : flw 12 18 .int := ⟨(RX12, TX12, 60), tyX12, rfl, tyX12_ok, nmX12, rfl, (by decide +kernel)⟩
theorem ir_12_19 : i_r 12 19 = true := (by decide +kernel)
theorem id_12_19 : i_d 12 19 = false := (by decide +kernel)
theorem ir_12_20 : i_r 12 20 = true := (by decide +kernel)
theorem id_12_20 : i_d 12 20 = false := (by decide +kernel)
theorem ir_12_21 : i_r 12 21 = true := (by decide +kernel)
theorem id_12_21 : i_d 12 21 = false := (by decide +kernel)
theorem ir_12_22 : i_r 12 22 = true := (by decide +kernel)
theorem id_12_22 : i_d 12 22 = false := (by decide +kernel)
theorem ir_12_23 : i_r 12 23 = true := (by decide +kernel)
theorem id_12_23 : i_d 12 23 = false := (by decide +kernel)
theorem ir_12_24 : i_r 12 24 = false := (by decide +kernel)
theorem flw_12_24 : flw 12 24 .int := ⟨(RX12, TX12, 60), tyX12, rfl, tyX12_ok, nmX12, rfl, (by decide +kernel)⟩
theorem ir_12_25 : i_r 12 25 = false := (by decide +kernel)
theorem flw_12_25 : flw 12 25 .int := ⟨(RX12, TX12, 60), tyX12, rfl, tyX12_ok, nmX12, rfl, (by decide +kernel)⟩
theorem ir_12_26 : i_r 12 26 = false := (by decide +kernel)
theorem flw_12_26 : flw 12 26 .int := ⟨(RX12, TX12, 60), tyX12, rfl, tyX12_ok, nmX12, rfl, (by decide +kernel)⟩
theorem ir_12_27 : i_r 12 27 = false := (by decide +kernel)
theorem flw_12_27 : flw 12 27 .int := ⟨(RX12, TX12, 60), tyX12, rfl, tyX12_ok, nmX12, rfl, (by decide +kernel)⟩
theorem ir_12_28 : i_r 12 28 = true := (by decide +kernel)
theorem id_12_28 : i_d 12 28 = false := (by decide +kernel)
theorem ir_12_29 : i_r 12 29 = true := (by decide +kernel)
theorem id_12_29 : i_d 12 29 = false := (by decide +kernel)
theorem ir_12_30 : i_r 12 30 = true := (by decide +kernel)
theorem id_12_30 : i_d 12 30 = false := (by decide +kernel)
theorem ir_12_31 : i_r 12 31 = true := (by decide +kernel)
theorem id_12_31 : i_d 12 31 = false := (by decide +kernel)
theorem ir_12_32 : i_r 12 32 = true := (by decide +kernel)
theorem id_12_32 : i_d 12 32 = false := (by decide +kernel)
theorem ir_12_33 : i_r 12 33 = true := (by decide +kernel)
theorem id_12_33 : i_d 12 33 = false := (by decide +kernel)
theorem ir_12_34 : i_r 12 34 = true := (by decide +kernel)
theorem id_12_34 : i_d 12 34 = false := (by decide +kernel)
theorem ir_12_35 : i_r 12 35 = true := (by decide +kernel)
theorem id_12_35 : i_d 12 35 = false := (by decide +kernel)
theorem ir_12_36 : i_r 12 36 = false := (by decide +kernel)
theorem flw_12_36 : flw 12 36 .int := ⟨(RX12, TX12, 60), tyX12, rfl, tyX12_ok, nmX12, rfl, (by decide +kernel)⟩
theorem ir_12_37 : i_r 12 37 = false := (by decide +kernel)
theorem flw_12_37 : flw 12 37 .int := ⟨(RX12, TX12, 60), tyX12, rfl, tyX12_ok, nmX12, rfl, (by decide +kernel)⟩
theorem ir_12_38 : i_r 12 38 = false := (by decide +kernel)
theorem flw_12_38 : flw 12 38 .int := ⟨(RX12, TX12, 60), tyX12, rfl, tyX12_ok, nmX12, rfl, (by decide +kernel)⟩
theorem ir_12_39 : i_r 12 39 = false := (by decide +kernel)
theorem flw_12_39 : flw 12 39 .int := ⟨(RX12, TX12, 60), tyX12, rfl, tyX12_ok, nmX12, rfl, (by decide +kernel)⟩
theorem ir_12_40 : i_r 12 40 = false := (by decide +kernel)
theorem flw_12_40 : flw 12 40 .int := ⟨(RX12, TX12, 60), tyX12, rfl, tyX12_ok, nmX12, rfl, (by decide +kernel)⟩
theorem ir_12_41 : i_r 12 41 = true := (by decide +kernel)
theorem id_12_41 : i_d 12 41 = false := (by decide +kernel)
theorem ir_12_42 : i_r 12 42 = true := (by decide +kernel)
theorem id_12_42 : i_d 12 42 = false := (by decide +kernel)
theorem ir_12_43 : i_r 12 43 = true := (by decide +kernel)
theorem id_12_43 : i_d 12 43 = false := (by decide +kernel)
theorem ir_12_44 : i_r 12 44 = true := (by decide +kernel)
theorem id_12_44 : i_d 12 44 = false := (by decide +kernel)
theorem ir_12_45 : i_r 12 45 = false := (by decide +kernel)
theorem flw_12_45 : flw 12 45 .int := ⟨(RX12, TX12, 60), tyX12, rfl, tyX12_ok, nmX12, rfl, (by decide +kernel)⟩
theorem ir_12_46 : i_r 12 46 = true := (by decide +kernel)
theorem id_12_46 : i_d 12 46 = false := (by decide +kernel)
theorem ir_12_47 : i_r 12 47 = false := (by decide +kernel)
theorem flw_12_47 : flw 12 47 .int := ⟨(RX12, TX12, 60), tyX12, rfl, tyX12_ok, nmX12, rfl, (by decide +kernel)⟩
theorem ir_12_48 : i_r 12 48 = true := (by decide +kernel)
theorem id_12_48 : i_d 12 48 = false := (by decide +kernel)
theorem ir_12_49 : i_r 12 49 = false := (by decide +kernel)
theorem flw_12_49 : flw 12 49 .int := ⟨(RX12, TX12, 60), tyX12, rfl, tyX12_ok, nmX12, rfl, (by decide +kernel)⟩
theorem ir_12_50 : i_r 12 50 = false := (by decide +kernel)
theorem flw_12_50 : flw 12 50 .int := ⟨(RX12, TX12, 60), tyX12, rfl, tyX12_ok, nmX12, rfl, (by decide +kernel)⟩
theorem ir_12_51 : i_r 12 51 = false := (by decide +kernel)
theorem flw_12_51 : flw 12 51 .int := ⟨(RX12, TX12, 60), tyX12, rfl, tyX12_ok, nmX12, rfl, (by decide +kernel)⟩
theorem ir_12_52 : i_r 12 52 = false := (by decide +kernel)
theorem flw_12_52 : flw 12 52 .int := ⟨(RX12, TX12, 60), tyX12, rfl, tyX12_ok, nmX12, rfl, (by decide +kernel)⟩
theorem ir_12_53 : i_r 12 53 = false := (by decide +kernel)
theorem flw_12_53 : flw 12 53 .int := ⟨(RX12, TX12, 60), tyX12, rfl, tyX12_ok, nmX12, rfl, (by decide +kernel)⟩
theorem ir_12_54 : i_r 12 54 = false := (by decide +kernel)
theorem flw_12_54 : flw 12 54 .int := ⟨(RX12, TX12, 60), tyX12, rfl, tyX12_ok, nmX12, rfl, (by decide +kernel)⟩
theorem ir_12_55 : i_r 12 55 = false := (by decide +kernel)
theorem flw_12_55 : flw 12 55 .int := ⟨(RX12, TX12, 60), tyX12, rfl, tyX12_ok, nmX12, rfl, (by decide +kernel)⟩
theorem ir_12_56 : i_r 12 56 = false := (by decide +kernel)
theorem flw_12_56 : flw 12 56 .int := ⟨(RX12, TX12, 60), tyX12, rfl, tyX12_ok, nmX12, rfl, (by decide +kernel)⟩
theorem ir_12_57 : i_r 12 57 = true := (by decide +kernel)
theorem id_12_57 : i_d 12 57 = false := (by decide +kernel)
theorem ir_12_58 : i_r 12 58 = false := (by decide +kernel)
theorem flw_12_58 : flw 12 58 .int := ⟨(RX12, TX12, 60), tyX12, rfl, tyX12_ok, nmX12, rfl, (by decide +kernel)⟩
theorem ir_12_59 : i_r 12 59 = false := (by decide +kernel)
theorem flw_12_59 : flw 12 59 .int := ⟨(RX12, TX12, 60), tyX12, rfl, tyX12_ok, nmX12, rfl, (by decide +kernel)⟩
theorem cv_L_112 : clV RL 112 m_X11_feed 5 := ⟨T_2 223 rfl rfl, T_2 224 rfl rfl, T_2 225 rfl rfl, T_1 1 rfl rfl, T_2 226 rfl rfl, ⟨nh_RX11.1, nh_RX11.2, ar_X11_feed⟩, by decide⟩
theorem cv_X11_92 : clV RX11 92 m_X7_hasPlace 0 := ⟨T_2 227 rfl rfl, T_2 228 rfl rfl, T_2 229 rfl rfl, T_1 2 rfl rfl, T_2 230 rfl rfl, ⟨nh_RX7.1, nh_RX7.2, ar_X7_hasPlace⟩, by decide⟩
theorem cv_X11_96 : clV RX11 96 m_X7_take 1 := ⟨T_2 231 rfl rfl, T_2 232 rfl rfl, T_2 233 rfl rfl, T_1 2 rfl rfl, T_2 234 rfl rfl, ⟨nh_RX7.1, nh_RX7.2, ar_X7_take⟩, by decide⟩
theorem cv_L_129 : clV RL 129 m_X11_fault 0 := ⟨T_2 235 rfl rfl, T_2 236 rfl rfl, T_2 237 rfl rfl, T_1 1 rfl rfl, T_2 238 rfl rfl, ⟨nh_RX11.1, nh_RX11.2, ar_X11_fault⟩, by decide⟩
theorem cv_X11_114 : clV RX11 114 m_X7_isSound 0 := ⟨T_2 239 rfl rfl, T_3 0 rfl rfl, T_3 1 rfl rfl, T_1 2 rfl rfl, T_3 2 rfl rfl, ⟨nh_RX7.1, nh_RX7.2, ar_X7_isSound⟩, by decide⟩
theorem cv_L_218 : clV RL 218 m_X11_image 0 := ⟨T_3 3 rfl rfl, T_3 4 rfl rfl, T_3 5 rfl rfl, T_1 1 rfl rfl, T_3 6 rfl rfl, ⟨nh_RX11.1, nh_RX11.2, ar_X11_image⟩, by decide⟩
theorem cv_L_222 : clV RL 222 m_X11_restore 0 := ⟨T_3 7 rfl rfl, T_3 8 rfl rfl, T_3 9 rfl rfl, T_1 1 rfl rfl, T_3 10 rfl rfl, ⟨nh_RX11.1, nh_RX11.2, ar_X11_restore⟩, by decide⟩
theorem cv_X11_321 : clV RX11 321 m_X2_goBack 1 := ⟨T_3 11 rfl rfl, T_3 12 rfl rfl, T_3 13 rfl rfl, T_1 12 rfl rfl, T_3 14 rfl rfl, ⟨nh_RX2.1, nh_RX2.2, ar_X2_goBack⟩, by decide⟩
theorem cv_X2_70 : clV RX2 70 m_X2_replay 3 := ⟨T_3 15 rfl rfl, T_3 17 rfl rfl, T_0 0 rfl rfl, T_1 12 rfl rfl, T_3 18 rfl rfl, ⟨nh_RX2.1, nh_RX2.2, ar_X2_replay⟩, by decide⟩
theorem cv_X2_60 : clV RX2 60 m_X3_add 1 := ⟨T_3 19 rfl rfl, T_3 20 rfl rfl, T_3 21 rfl rfl, T_1 6 rfl rfl, T_3 22 rfl rfl, ⟨nh_RX3.1, nh_RX3.2, ar_X3_add⟩, by decide⟩
theorem cv_X3_31 : clV RX3 31 m_X3_firstFrom 1 := ⟨T_3 23 rfl rfl, T_3 24 rfl rfl, T_3 25 rfl rfl, T_1 6 rfl rfl, T_3 26 rfl rfl, ⟨nh_RX3.1, nh_RX3.2, ar_X3_firstFrom⟩, by decide⟩
theorem cv_X2_63 : clV RX2 63 m_X3_remove 1 := ⟨T_3 30 rfl rfl, T_3 31 rfl rfl, T_3 32 rfl rfl, T_1 6 rfl rfl, T_3 33 rfl rfl, ⟨nh_RX3.1, nh_RX3.2, ar_X3_remove⟩, by decide⟩
theorem cv_X11_129 : clV RX11 129 m_X4_forget 0 := ⟨T_3 34 rfl rfl, T_3 35 rfl rfl, T_3 36 rfl rfl, T_1 7 rfl rfl, T_3 37 rfl rfl, ⟨nh_RX4.1, nh_RX4.2, ar_X4_forget⟩, by decide⟩
theorem cv_L_226 : clV RL 226 m_X11_status 1 := ⟨T_3 38 rfl rfl, T_3 39 rfl rfl, T_3 40 rfl rfl, T_1 1 rfl rfl, T_3 41 rfl rfl, ⟨nh_RX11.1, nh_RX11.2, ar_X11_status⟩, by decide⟩
theorem cv_L_230 : clV RL 230 m_X11_count 1 := ⟨T_3 42 rfl rfl, T_3 43 rfl rfl, T_3 44 rfl rfl, T_1 1 rfl rfl, T_3 45 rfl rfl, ⟨nh_RX11.1, nh_RX11.2, ar_X11_count⟩, by decide⟩
theorem cv_L_7 : clV RL 7 m_X11_shape 1 := ⟨T_3 50 rfl rfl, T_3 51 rfl rfl, T_3 52 rfl rfl, T_1 1 rfl rfl, T_3 53 rfl rfl, ⟨nh_RX11.1, nh_RX11.2, ar_X11_shape⟩, by decide⟩
theorem cv_X11_103 : clV RX11 103 m_X11_need 1 := ⟨T_3 54 rfl rfl, T_3 56 rfl rfl, T_0 1 rfl rfl, T_1 1 rfl rfl, T_3 57 rfl rfl, ⟨nh_RX11.1, nh_RX11.2, ar_X11_need⟩, by decide⟩
theorem cv_X11_107 : clV RX11 107 m_X7_open 1 := ⟨T_3 121 rfl rfl, T_3 122 rfl rfl, T_3 123 rfl rfl, T_1 2 rfl rfl, T_3 124 rfl rfl, ⟨nh_RX7.1, nh_RX7.2, ar_X7_open⟩, by decide⟩
theorem cv_X11_110 : clV RX11 110 m_X6_read 1 := ⟨T_3 125 rfl rfl, T_3 126 rfl rfl, T_3 127 rfl rfl, T_1 4 rfl rfl, T_3 128 rfl rfl, ⟨nh_RX6.1, nh_RX6.2, ar_X6_read⟩, by decide⟩
theorem cv_X6_26 : clV RX6 26 m_X7_isSound 0 := ⟨T_3 129 rfl rfl, T_3 0 rfl rfl, T_3 1 rfl rfl, T_1 2 rfl rfl, T_3 2 rfl rfl, ⟨nh_RX7.1, nh_RX7.2, ar_X7_isSound⟩, by decide⟩
theorem cv_X6_32 : clV RX6 32 m_X7_ahead 0 := ⟨T_3 130 rfl rfl, T_3 131 rfl rfl, T_3 132 rfl rfl, T_1 2 rfl rfl, T_3 133 rfl rfl, ⟨nh_RX7.1, nh_RX7.2, ar_X7_ahead⟩, by decide⟩
theorem cv_X6_36 : clV RX6 36 m_X6_readClause 1 := ⟨T_3 134 rfl rfl, T_3 136 rfl rfl, T_0 3 rfl rfl, T_1 4 rfl rfl, T_3 137 rfl rfl, ⟨nh_RX6.1, nh_RX6.2, ar_X6_readClause⟩, by decide⟩
theorem cv_X6_40 : clV RX6 40 m_X7_readWord 0 := ⟨T_3 138 rfl rfl, T_3 139 rfl rfl, T_3 140 rfl rfl, T_1 2 rfl rfl, T_3 141 rfl rfl, ⟨nh_RX7.1, nh_RX7.2, ar_X7_readWord⟩, by decide⟩
theorem cv_X7_34 : clV RX7 34 m_X7_ahead 0 := ⟨T_3 142 rfl rfl, T_3 131 rfl rfl, T_3 132 rfl rfl, T_1 2 rfl rfl, T_3 133 rfl rfl, ⟨nh_RX7.1, nh_RX7.2, ar_X7_ahead⟩, by decide⟩
theorem cv_X6_44 : clV RX6 44 m_X7_wordIs 1 := ⟨T_3 144 rfl rfl, T_3 145 rfl rfl, T_3 146 rfl rfl, T_1 2 rfl rfl, T_3 147 rfl rfl, ⟨nh_RX7.1, nh_RX7.2, ar_X7_wordIs⟩, by decide⟩
theorem cv_X7_42 : clV RX7 42 m_J0_length_8abf5 0 := ⟨T_3 148 rfl rfl, T_3 149 rfl rfl, T_3 150 rfl rfl, T_1 18 rfl rfl, T_3 151 rfl rfl, ⟨nh_RJ0.1, nh_RJ0.2, ar_J0_length_8abf5⟩, by decide⟩
theorem cv_J0_335 : clV RJ0 335 m_J0_coder_7d493 0 := ⟨T_3 152 rfl rfl, T_3 153 rfl rfl, T_3 154 rfl rfl, T_1 18 rfl rfl, T_3 155 rfl rfl, ⟨nh_RJ0.1, nh_RJ0.2, ar_J0_coder_7d493⟩, by decide⟩
theorem sf_J0_38 : Cond.fieldLink RJ0 38 "java/lang/String" "COMPACT_STRINGS" "Z" ∈ TT := T_3 156 rfl rfl
theorem cv_X7_46 : clV RX7 46 m_J0_charAt_5068e 1 := ⟨T_3 158 rfl rfl, T_3 159 rfl rfl, T_3 160 rfl rfl, T_1 18 rfl rfl, T_3 161 rfl rfl, ⟨nh_RJ0.1, nh_RJ0.2, ar_J0_charAt_5068e⟩, by decide⟩
theorem cv_J0_492 : clV RJ0 492 m_J0_isLatin1_aae02 0 := ⟨T_3 162 rfl rfl, T_3 163 rfl rfl, T_3 164 rfl rfl, T_1 18 rfl rfl, T_3 165 rfl rfl, ⟨nh_RJ0.1, nh_RJ0.2, ar_J0_isLatin1_aae02⟩, by decide⟩
theorem cs_J0_495 : clS RJ0 495 m_J1_charAt_3b067 2 := ⟨T_3 166 rfl rfl, T_3 167 rfl rfl, T_1 19 rfl rfl, T_3 168 rfl rfl, ⟨nh_RJ1.1, nh_RJ1.2, ar_J1_charAt_3b067⟩, by decide⟩
theorem cs_J1_9 : clS RJ1 9 m_J0_checkIndex_df160 2 := ⟨T_3 169 rfl rfl, T_3 170 rfl rfl, T_1 18 rfl rfl, T_3 171 rfl rfl, ⟨nh_RJ0.1, nh_RJ0.2, ar_J0_checkIndex_df160⟩, by decide⟩
theorem sg_J0_1053 : Cond.fieldLink RJ0 1053 "jdk/internal/util/Preconditions" "SIOOBE_FORMATTER" "Ljava/util/function/BiFunction;" ∈ TT := T_3 172 rfl rfl
theorem cs_J0_1059 : clS RJ0 1059 m_J3_checkIndex_8e157 3 := ⟨T_3 174 rfl rfl, T_3 175 rfl rfl, T_1 20 rfl rfl, T_3 176 rfl rfl, ⟨nh_RJ3.1, nh_RJ3.2, ar_J3_checkIndex_8e157⟩, by decide⟩
theorem cs_J0_498 : clS RJ0 498 m_J2_charAt_3b067 2 := ⟨T_3 177 rfl rfl, T_3 178 rfl rfl, T_1 21 rfl rfl, T_3 179 rfl rfl, ⟨nh_RJ2.1, nh_RJ2.2, ar_J2_charAt_3b067⟩, by decide⟩
theorem cs_J2_67 : clS RJ2 67 m_J2_checkIndex_2214a 2 := ⟨T_3 180 rfl rfl, T_3 181 rfl rfl, T_1 21 rfl rfl, T_3 182 rfl rfl, ⟨nh_RJ2.1, nh_RJ2.2, ar_J2_checkIndex_2214a⟩, by decide⟩
theorem cs_J2_48 : clS RJ2 48 m_J2_length_9d52b 1 := ⟨T_3 183 rfl rfl, T_3 184 rfl rfl, T_1 21 rfl rfl, T_3 185 rfl rfl, ⟨nh_RJ2.1, nh_RJ2.2, ar_J2_length_9d52b⟩, by decide⟩
theorem cs_J2_414 : clS RJ2 414 m_J0_checkIndex_df160 2 := ⟨T_3 186 rfl rfl, T_3 170 rfl rfl, T_1 18 rfl rfl, T_3 171 rfl rfl, ⟨nh_RJ0.1, nh_RJ0.2, ar_J0_checkIndex_df160⟩, by decide⟩
theorem cs_J2_71 : clS RJ2 71 m_J2_getChar_3b067 2 := ⟨T_3 187 rfl rfl, T_3 188 rfl rfl, T_1 21 rfl rfl, T_3 189 rfl rfl, ⟨nh_RJ2.1, nh_RJ2.2, ar_J2_getChar_3b067⟩, by decide⟩
theorem cv_X6_51 : clV RX6 51 m_X7_refuse 1 := ⟨T_3 198 rfl rfl, T_3 199 rfl rfl, T_3 200 rfl rfl, T_1 2 rfl rfl, T_3 201 rfl rfl, ⟨nh_RX7.1, nh_RX7.2, ar_X7_refuse⟩, by decide⟩
theorem cv_X6_55 : clV RX6 55 m_X6_readValue 2 := ⟨T_3 202 rfl rfl, T_3 204 rfl rfl, T_0 4 rfl rfl, T_1 4 rfl rfl, T_3 205 rfl rfl, ⟨nh_RX6.1, nh_RX6.2, ar_X6_readValue⟩, by decide⟩
theorem cv_X6_62 : clV RX6 62 m_X7_readNumber 2 := ⟨T_3 206 rfl rfl, T_3 207 rfl rfl, T_3 208 rfl rfl, T_1 2 rfl rfl, T_3 209 rfl rfl, ⟨nh_RX7.1, nh_RX7.2, ar_X7_readNumber⟩, by decide⟩
theorem cn_X7_50 : Cond.constant RX7 50 1000000 ∈ TT := T_3 210 rfl rfl
theorem cs_X7_51 : clS RX7 51 m_J9_min_7cf53 2 := ⟨T_3 211 rfl rfl, T_3 212 rfl rfl, T_1 22 rfl rfl, T_3 213 rfl rfl, ⟨nh_RJ9.1, nh_RJ9.2, ar_J9_min_7cf53⟩, by decide⟩
theorem cv_X7_38 : clV RX7 38 m_X7_refuse 1 := ⟨T_3 214 rfl rfl, T_3 199 rfl rfl, T_3 200 rfl rfl, T_1 2 rfl rfl, T_3 201 rfl rfl, ⟨nh_RX7.1, nh_RX7.2, ar_X7_refuse⟩, by decide⟩
theorem cv_X6_59 : clV RX6 59 m_X7_needSign 1 := ⟨T_3 217 rfl rfl, T_3 218 rfl rfl, T_3 219 rfl rfl, T_1 2 rfl rfl, T_3 220 rfl rfl, ⟨nh_RX7.1, nh_RX7.2, ar_X7_needSign⟩, by decide⟩
theorem cv_X11_120 : clV RX11 120 m_X5_take 1 := ⟨T_3 221 rfl rfl, T_3 222 rfl rfl, T_3 223 rfl rfl, T_1 3 rfl rfl, T_3 224 rfl rfl, ⟨nh_RX5.1, nh_RX5.2, ar_X5_take⟩, by decide⟩
theorem cv_X11_123 : clV RX11 123 m_X2_clear 0 := ⟨T_3 225 rfl rfl, T_3 226 rfl rfl, T_3 227 rfl rfl, T_1 12 rfl rfl, T_3 228 rfl rfl, ⟨nh_RX2.1, nh_RX2.2, ar_X2_clear⟩, by decide⟩
theorem cv_X2_36 : clV RX2 36 m_X3_clear 0 := ⟨T_3 229 rfl rfl, T_3 230 rfl rfl, T_3 231 rfl rfl, T_1 6 rfl rfl, T_3 232 rfl rfl, ⟨nh_RX3.1, nh_RX3.2, ar_X3_clear⟩, by decide⟩
theorem cv_X11_132 : clV RX11 132 m_X10_forget 0 := ⟨T_3 233 rfl rfl, T_3 234 rfl rfl, T_3 235 rfl rfl, T_1 9 rfl rfl, T_3 236 rfl rfl, ⟨nh_RX10.1, nh_RX10.2, ar_X10_forget⟩, by decide⟩
theorem cv_X11_133 : clV RX11 133 m_X0_forget 0 := ⟨T_3 237 rfl rfl, T_3 238 rfl rfl, T_3 239 rfl rfl, T_1 10 rfl rfl, T_4 0 rfl rfl, ⟨nh_RX0.1, nh_RX0.2, ar_X0_forget⟩, by decide⟩
theorem cv_L_15 : clV RL 15 m_X11_thief 1 := ⟨T_4 5 rfl rfl, T_4 6 rfl rfl, T_4 7 rfl rfl, T_1 1 rfl rfl, T_4 8 rfl rfl, ⟨nh_RX11.1, nh_RX11.2, ar_X11_thief⟩, by decide⟩
theorem cv_X11_140 : clV RX11 140 m_X9_read 2 := ⟨T_4 9 rfl rfl, T_4 10 rfl rfl, T_4 11 rfl rfl, T_1 5 rfl rfl, T_4 12 rfl rfl, ⟨nh_RX9.1, nh_RX9.2, ar_X9_read⟩, by decide⟩
theorem cv_X9_28 : clV RX9 28 m_X8_clear 0 := ⟨T_4 13 rfl rfl, T_4 14 rfl rfl, T_4 15 rfl rfl, T_1 11 rfl rfl, T_4 16 rfl rfl, ⟨nh_RX8.1, nh_RX8.2, ar_X8_clear⟩, by decide⟩
theorem cv_X9_41 : clV RX9 41 m_X7_isSound 0 := ⟨T_4 17 rfl rfl, T_3 0 rfl rfl, T_3 1 rfl rfl, T_1 2 rfl rfl, T_3 2 rfl rfl, ⟨nh_RX7.1, nh_RX7.2, ar_X7_isSound⟩, by decide⟩
theorem cv_X9_47 : clV RX9 47 m_X9_isOver 0 := ⟨T_4 18 rfl rfl, T_4 20 rfl rfl, T_0 5 rfl rfl, T_1 5 rfl rfl, T_4 21 rfl rfl, ⟨nh_RX9.1, nh_RX9.2, ar_X9_isOver⟩, by decide⟩
theorem cv_X9_57 : clV RX9 57 m_X7_ahead 0 := ⟨T_4 22 rfl rfl, T_3 131 rfl rfl, T_3 132 rfl rfl, T_1 2 rfl rfl, T_3 133 rfl rfl, ⟨nh_RX7.1, nh_RX7.2, ar_X7_ahead⟩, by decide⟩
theorem cv_X9_50 : clV RX9 50 m_X9_readStep 0 := ⟨T_4 23 rfl rfl, T_4 25 rfl rfl, T_0 6 rfl rfl, T_1 5 rfl rfl, T_4 26 rfl rfl, ⟨nh_RX9.1, nh_RX9.2, ar_X9_readStep⟩, by decide⟩
theorem cv_X9_61 : clV RX9 61 m_X7_takeSign 1 := ⟨T_4 27 rfl rfl, T_4 28 rfl rfl, T_4 29 rfl rfl, T_1 2 rfl rfl, T_4 30 rfl rfl, ⟨nh_RX7.1, nh_RX7.2, ar_X7_takeSign⟩, by decide⟩
theorem cv_X9_65 : clV RX9 65 m_X9_closeLoop 0 := ⟨T_4 31 rfl rfl, T_4 33 rfl rfl, T_0 7 rfl rfl, T_1 5 rfl rfl, T_4 34 rfl rfl, ⟨nh_RX9.1, nh_RX9.2, ar_X9_closeLoop⟩, by decide⟩
theorem cv_X9_89 : clV RX9 89 m_X8_add 2 := ⟨T_4 35 rfl rfl, T_4 36 rfl rfl, T_4 37 rfl rfl, T_1 11 rfl rfl, T_4 38 rfl rfl, ⟨nh_RX8.1, nh_RX8.2, ar_X8_add⟩, by decide⟩
theorem cv_X9_68 : clV RX9 68 m_X7_readWord 0 := ⟨T_4 39 rfl rfl, T_3 139 rfl rfl, T_3 140 rfl rfl, T_1 2 rfl rfl, T_3 141 rfl rfl, ⟨nh_RX7.1, nh_RX7.2, ar_X7_readWord⟩, by decide⟩
theorem cv_X9_71 : clV RX9 71 m_X9_callOfWord 0 := ⟨T_4 40 rfl rfl, T_4 42 rfl rfl, T_0 8 rfl rfl, T_1 5 rfl rfl, T_4 43 rfl rfl, ⟨nh_RX9.1, nh_RX9.2, ar_X9_callOfWord⟩, by decide⟩
theorem cv_X9_76 : clV RX9 76 m_X7_wordIs 1 := ⟨T_4 45 rfl rfl, T_3 145 rfl rfl, T_3 146 rfl rfl, T_1 2 rfl rfl, T_3 147 rfl rfl, ⟨nh_RX7.1, nh_RX7.2, ar_X7_wordIs⟩, by decide⟩
theorem cv_X9_53 : clV RX9 53 m_X7_refuse 1 := ⟨T_4 51 rfl rfl, T_3 199 rfl rfl, T_3 200 rfl rfl, T_1 2 rfl rfl, T_3 201 rfl rfl, ⟨nh_RX7.1, nh_RX7.2, ar_X7_refuse⟩, by decide⟩
theorem cv_X9_80 : clV RX9 80 m_X9_openLoop 0 := ⟨T_4 52 rfl rfl, T_4 54 rfl rfl, T_0 9 rfl rfl, T_1 5 rfl rfl, T_4 55 rfl rfl, ⟨nh_RX9.1, nh_RX9.2, ar_X9_openLoop⟩, by decide⟩
theorem cv_X9_103 : clV RX9 103 m_X7_readNumber 2 := ⟨T_4 56 rfl rfl, T_3 207 rfl rfl, T_3 208 rfl rfl, T_1 2 rfl rfl, T_3 209 rfl rfl, ⟨nh_RX7.1, nh_RX7.2, ar_X7_readNumber⟩, by decide⟩
theorem cv_X9_86 : clV RX9 86 m_X7_needSign 1 := ⟨T_4 57 rfl rfl, T_3 218 rfl rfl, T_3 219 rfl rfl, T_1 2 rfl rfl, T_3 220 rfl rfl, ⟨nh_RX7.1, nh_RX7.2, ar_X7_needSign⟩, by decide⟩
theorem cv_X9_83 : clV RX9 83 m_X9_readSum 1 := ⟨T_4 58 rfl rfl, T_4 60 rfl rfl, T_0 10 rfl rfl, T_1 5 rfl rfl, T_4 61 rfl rfl, ⟨nh_RX9.1, nh_RX9.2, ar_X9_readSum⟩, by decide⟩
theorem cv_X9_110 : clV RX9 110 m_X9_readProduct 1 := ⟨T_4 62 rfl rfl, T_4 64 rfl rfl, T_0 11 rfl rfl, T_1 5 rfl rfl, T_4 65 rfl rfl, ⟨nh_RX9.1, nh_RX9.2, ar_X9_readProduct⟩, by decide⟩
theorem cv_X9_113 : clV RX9 113 m_X9_readUnit 1 := ⟨T_4 66 rfl rfl, T_4 68 rfl rfl, T_0 12 rfl rfl, T_1 5 rfl rfl, T_4 69 rfl rfl, ⟨nh_RX9.1, nh_RX9.2, ar_X9_readUnit⟩, by decide⟩
theorem cn_X9_116 : Cond.constant RX9 116 99999 ∈ TT := T_4 70 rfl rfl
theorem cv_X9_117 : clV RX9 117 m_X9_addName 0 := ⟨T_4 71 rfl rfl, T_4 73 rfl rfl, T_0 13 rfl rfl, T_1 5 rfl rfl, T_4 74 rfl rfl, ⟨nh_RX9.1, nh_RX9.2, ar_X9_addName⟩, by decide⟩
theorem cs_X9_124 : clS RX9 124 m_J9_max_7cf53 2 := ⟨T_4 77 rfl rfl, T_4 78 rfl rfl, T_1 22 rfl rfl, T_4 79 rfl rfl, ⟨nh_RJ9.1, nh_RJ9.2, ar_J9_max_7cf53⟩, by decide⟩
theorem cv_L_18 : clV RL 18 m_X11_told 1 := ⟨T_4 86 rfl rfl, T_4 87 rfl rfl, T_4 88 rfl rfl, T_1 1 rfl rfl, T_4 89 rfl rfl, ⟨nh_RX11.1, nh_RX11.2, ar_X11_told⟩, by decide⟩
theorem cv_L_21 : clV RL 21 m_X11_put 2 := ⟨T_4 94 rfl rfl, T_4 95 rfl rfl, T_4 96 rfl rfl, T_1 1 rfl rfl, T_4 97 rfl rfl, ⟨nh_RX11.1, nh_RX11.2, ar_X11_put⟩, by decide⟩
theorem cv_X11_153 : clV RX11 153 m_X11_needHouse 1 := ⟨T_4 98 rfl rfl, T_4 100 rfl rfl, T_0 14 rfl rfl, T_1 1 rfl rfl, T_4 101 rfl rfl, ⟨nh_RX11.1, nh_RX11.2, ar_X11_needHouse⟩, by decide⟩
theorem cv_X11_156 : clV RX11 156 m_X11_needNumber 1 := ⟨T_4 117 rfl rfl, T_4 119 rfl rfl, T_0 15 rfl rfl, T_1 1 rfl rfl, T_4 120 rfl rfl, ⟨nh_RX11.1, nh_RX11.2, ar_X11_needNumber⟩, by decide⟩
theorem cv_X11_190 : clV RX11 190 m_X11_isNumber 1 := ⟨T_4 121 rfl rfl, T_4 123 rfl rfl, T_0 16 rfl rfl, T_1 1 rfl rfl, T_4 124 rfl rfl, ⟨nh_RX11.1, nh_RX11.2, ar_X11_isNumber⟩, by decide⟩
theorem cv_X11_222 : clV RX11 222 m_X5_greatest 0 := ⟨T_4 125 rfl rfl, T_4 126 rfl rfl, T_4 127 rfl rfl, T_1 3 rfl rfl, T_4 128 rfl rfl, ⟨nh_RX5.1, nh_RX5.2, ar_X5_greatest⟩, by decide⟩
theorem cv_X11_159 : clV RX11 159 m_X2_change 2 := ⟨T_4 129 rfl rfl, T_4 130 rfl rfl, T_4 131 rfl rfl, T_1 12 rfl rfl, T_4 132 rfl rfl, ⟨nh_RX2.1, nh_RX2.2, ar_X2_change⟩, by decide⟩
theorem cv_X2_46 : clV RX2 46 m_X3_holds 1 := ⟨T_4 133 rfl rfl, T_4 134 rfl rfl, T_4 135 rfl rfl, T_1 6 rfl rfl, T_4 136 rfl rfl, ⟨nh_RX3.1, nh_RX3.2, ar_X3_holds⟩, by decide⟩
theorem cv_X2_50 : clV RX2 50 m_X2_refusal 2 := ⟨T_4 137 rfl rfl, T_4 138 rfl rfl, T_4 139 rfl rfl, T_1 12 rfl rfl, T_4 140 rfl rfl, ⟨nh_RX2.1, nh_RX2.2, ar_X2_refusal⟩, by decide⟩
theorem cv_X2_54 : clV RX2 54 m_X2_make 2 := ⟨T_4 141 rfl rfl, T_4 142 rfl rfl, T_4 143 rfl rfl, T_1 12 rfl rfl, T_4 144 rfl rfl, ⟨nh_RX2.1, nh_RX2.2, ar_X2_make⟩, by decide⟩
theorem cv_X2_57 : clV RX2 57 m_X1_touchesOf 2 := ⟨T_4 145 rfl rfl, T_4 146 rfl rfl, T_4 147 rfl rfl, T_1 8 rfl rfl, T_4 148 rfl rfl, ⟨nh_RX1.1, nh_RX1.2, ar_X1_touchesOf⟩, by decide⟩
theorem cv_X1_54 : clV RX1 54 m_X1_look 0 := ⟨T_4 149 rfl rfl, T_4 151 rfl rfl, T_0 17 rfl rfl, T_1 8 rfl rfl, T_4 152 rfl rfl, ⟨nh_RX1.1, nh_RX1.2, ar_X1_look⟩, by decide⟩
theorem cv_X1_76 : clV RX1 76 m_X1_valueAt 1 := ⟨T_4 153 rfl rfl, T_4 155 rfl rfl, T_0 18 rfl rfl, T_1 8 rfl rfl, T_4 156 rfl rfl, ⟨nh_RX1.1, nh_RX1.2, ar_X1_valueAt⟩, by decide⟩
theorem cv_X1_86 : clV RX1 86 m_X5_lowerBits 1 := ⟨T_4 157 rfl rfl, T_4 158 rfl rfl, T_4 159 rfl rfl, T_1 3 rfl rfl, T_4 160 rfl rfl, ⟨nh_RX5.1, nh_RX5.2, ar_X5_lowerBits⟩, by decide⟩
theorem cv_X1_92 : clV RX1 92 m_X1_firstFrom 3 := ⟨T_4 161 rfl rfl, T_4 163 rfl rfl, T_0 19 rfl rfl, T_1 8 rfl rfl, T_4 164 rfl rfl, ⟨nh_RX1.1, nh_RX1.2, ar_X1_firstFrom⟩, by decide⟩
theorem cv_X1_57 : clV RX1 57 m_X1_goOnPutting 0 := ⟨T_4 165 rfl rfl, T_4 167 rfl rfl, T_0 20 rfl rfl, T_1 8 rfl rfl, T_4 168 rfl rfl, ⟨nh_RX1.1, nh_RX1.2, ar_X1_goOnPutting⟩, by decide⟩
theorem cs_X1_108 : clS RX1 108 m_J9_max_7cf53 2 := ⟨T_4 169 rfl rfl, T_4 78 rfl rfl, T_1 22 rfl rfl, T_4 79 rfl rfl, ⟨nh_RJ9.1, nh_RJ9.2, ar_J9_max_7cf53⟩, by decide⟩
theorem cs_X1_114 : clS RX1 114 m_J9_min_7cf53 2 := ⟨T_4 170 rfl rfl, T_3 212 rfl rfl, T_1 22 rfl rfl, T_3 213 rfl rfl, ⟨nh_RJ9.1, nh_RJ9.2, ar_J9_min_7cf53⟩, by decide⟩
theorem cv_X1_117 : clV RX1 117 m_X1_findRoom 1 := ⟨T_4 171 rfl rfl, T_4 173 rfl rfl, T_0 21 rfl rfl, T_1 8 rfl rfl, T_4 174 rfl rfl, ⟨nh_RX1.1, nh_RX1.2, ar_X1_findRoom⟩, by decide⟩
theorem cv_X1_121 : clV RX1 121 m_X1_enterRoom 1 := ⟨T_4 175 rfl rfl, T_4 177 rfl rfl, T_0 22 rfl rfl, T_1 8 rfl rfl, T_4 178 rfl rfl, ⟨nh_RX1.1, nh_RX1.2, ar_X1_enterRoom⟩, by decide⟩
theorem cv_X1_125 : clV RX1 125 m_X1_enterList 1 := ⟨T_4 179 rfl rfl, T_4 181 rfl rfl, T_0 23 rfl rfl, T_1 8 rfl rfl, T_4 182 rfl rfl, ⟨nh_RX1.1, nh_RX1.2, ar_X1_enterList⟩, by decide⟩
theorem cv_X1_61 : clV RX1 61 m_X1_goOnDropping 0 := ⟨T_4 183 rfl rfl, T_4 185 rfl rfl, T_0 24 rfl rfl, T_1 8 rfl rfl, T_4 186 rfl rfl, ⟨nh_RX1.1, nh_RX1.2, ar_X1_goOnDropping⟩, by decide⟩
theorem cv_X1_64 : clV RX1 64 m_X1_goOnUp 0 := ⟨T_4 187 rfl rfl, T_4 189 rfl rfl, T_0 25 rfl rfl, T_1 8 rfl rfl, T_4 190 rfl rfl, ⟨nh_RX1.1, nh_RX1.2, ar_X1_goOnUp⟩, by decide⟩
theorem cv_X1_67 : clV RX1 67 m_X1_goOnDown 0 := ⟨T_4 191 rfl rfl, T_4 193 rfl rfl, T_0 26 rfl rfl, T_1 8 rfl rfl, T_4 194 rfl rfl, ⟨nh_RX1.1, nh_RX1.2, ar_X1_goOnDown⟩, by decide⟩
theorem cv_X1_70 : clV RX1 70 m_X1_goOnAsking 0 := ⟨T_4 195 rfl rfl, T_4 197 rfl rfl, T_0 27 rfl rfl, T_1 8 rfl rfl, T_4 198 rfl rfl, ⟨nh_RX1.1, nh_RX1.2, ar_X1_goOnAsking⟩, by decide⟩
theorem cv_L_27 : clV RL 27 m_X11_drop 2 := ⟨T_4 202 rfl rfl, T_4 203 rfl rfl, T_4 204 rfl rfl, T_1 1 rfl rfl, T_4 205 rfl rfl, ⟨nh_RX11.1, nh_RX11.2, ar_X11_drop⟩, by decide⟩
theorem cv_L_30 : clV RL 30 m_X11_has 2 := ⟨T_4 209 rfl rfl, T_4 210 rfl rfl, T_4 211 rfl rfl, T_1 1 rfl rfl, T_4 212 rfl rfl, ⟨nh_RX11.1, nh_RX11.2, ar_X11_has⟩, by decide⟩
theorem cv_X11_166 : clV RX11 166 m_X3_holds 1 := ⟨T_4 213 rfl rfl, T_4 134 rfl rfl, T_4 135 rfl rfl, T_1 6 rfl rfl, T_4 136 rfl rfl, ⟨nh_RX3.1, nh_RX3.2, ar_X3_holds⟩, by decide⟩
theorem cv_L_34 : clV RL 34 m_X11_of 2 := ⟨T_4 217 rfl rfl, T_4 218 rfl rfl, T_4 219 rfl rfl, T_1 1 rfl rfl, T_4 220 rfl rfl, ⟨nh_RX11.1, nh_RX11.2, ar_X11_of⟩, by decide⟩
theorem cv_X11_173 : clV RX11 173 m_X3_tell 1 := ⟨T_4 221 rfl rfl, T_4 222 rfl rfl, T_4 223 rfl rfl, T_1 6 rfl rfl, T_4 224 rfl rfl, ⟨nh_RX3.1, nh_RX3.2, ar_X3_tell⟩, by decide⟩
theorem cv_X3_35 : clV RX3 35 m_X3_at 1 := ⟨T_4 225 rfl rfl, T_4 226 rfl rfl, T_4 227 rfl rfl, T_1 6 rfl rfl, T_4 228 rfl rfl, ⟨nh_RX3.1, nh_RX3.2, ar_X3_at⟩, by decide⟩
theorem cv_L_37 : clV RL 37 m_X11_next 2 := ⟨T_4 232 rfl rfl, T_4 233 rfl rfl, T_4 234 rfl rfl, T_1 1 rfl rfl, T_4 235 rfl rfl, ⟨nh_RX11.1, nh_RX11.2, ar_X11_next⟩, by decide⟩
theorem cv_X11_177 : clV RX11 177 m_X11_mayAsk 2 := ⟨T_4 236 rfl rfl, T_4 238 rfl rfl, T_0 28 rfl rfl, T_1 1 rfl rfl, T_4 239 rfl rfl, ⟨nh_RX11.1, nh_RX11.2, ar_X11_mayAsk⟩, by decide⟩
theorem cv_X11_181 : clV RX11 181 m_X3_above 1 := ⟨T_5 0 rfl rfl, T_5 1 rfl rfl, T_5 2 rfl rfl, T_1 6 rfl rfl, T_5 3 rfl rfl, ⟨nh_RX3.1, nh_RX3.2, ar_X3_above⟩, by decide⟩
theorem cv_L_40 : clV RL 40 m_X11_before 2 := ⟨T_5 7 rfl rfl, T_5 8 rfl rfl, T_5 9 rfl rfl, T_1 1 rfl rfl, T_5 10 rfl rfl, ⟨nh_RX11.1, nh_RX11.2, ar_X11_before⟩, by decide⟩
theorem cv_X11_184 : clV RX11 184 m_X3_below 1 := ⟨T_5 11 rfl rfl, T_5 12 rfl rfl, T_5 13 rfl rfl, T_1 6 rfl rfl, T_5 14 rfl rfl, ⟨nh_RX3.1, nh_RX3.2, ar_X3_below⟩, by decide⟩
theorem cv_L_43 : clV RL 43 m_X11_kth 2 := ⟨T_5 18 rfl rfl, T_5 19 rfl rfl, T_5 20 rfl rfl, T_1 1 rfl rfl, T_5 21 rfl rfl, ⟨nh_RX11.1, nh_RX11.2, ar_X11_kth⟩, by decide⟩
theorem cv_X11_187 : clV RX11 187 m_X3_at 1 := ⟨T_5 22 rfl rfl, T_4 226 rfl rfl, T_4 227 rfl rfl, T_1 6 rfl rfl, T_4 228 rfl rfl, ⟨nh_RX3.1, nh_RX3.2, ar_X3_at⟩, by decide⟩
theorem cv_L_46 : clV RL 46 m_X11_between 3 := ⟨T_5 26 rfl rfl, T_5 27 rfl rfl, T_5 28 rfl rfl, T_1 1 rfl rfl, T_5 29 rfl rfl, ⟨nh_RX11.1, nh_RX11.2, ar_X11_between⟩, by decide⟩
theorem cv_X11_193 : clV RX11 193 m_X3_firstFrom 1 := ⟨T_5 30 rfl rfl, T_3 24 rfl rfl, T_3 25 rfl rfl, T_1 6 rfl rfl, T_3 26 rfl rfl, ⟨nh_RX3.1, nh_RX3.2, ar_X3_firstFrom⟩, by decide⟩
theorem cv_L_50 : clV RL 50 m_X11_touches 4 := ⟨T_5 34 rfl rfl, T_5 35 rfl rfl, T_5 36 rfl rfl, T_1 1 rfl rfl, T_5 37 rfl rfl, ⟨nh_RX11.1, nh_RX11.2, ar_X11_touches⟩, by decide⟩
theorem cs_X11_196 : clS RX11 196 m_X11_isCall 1 := ⟨T_5 38 rfl rfl, T_5 39 rfl rfl, T_1 1 rfl rfl, T_5 40 rfl rfl, ⟨nh_RX11.1, nh_RX11.2, ar_X11_isCall⟩, by decide⟩
theorem cs_X11_199 : clS RX11 199 m_X11_isKind 1 := ⟨T_5 41 rfl rfl, T_5 42 rfl rfl, T_1 1 rfl rfl, T_5 43 rfl rfl, ⟨nh_RX11.1, nh_RX11.2, ar_X11_isKind⟩, by decide⟩
theorem cv_X11_206 : clV RX11 206 m_X1_touchesOf 2 := ⟨T_5 44 rfl rfl, T_4 146 rfl rfl, T_4 147 rfl rfl, T_1 8 rfl rfl, T_4 148 rfl rfl, ⟨nh_RX1.1, nh_RX1.2, ar_X1_touchesOf⟩, by decide⟩
theorem cv_X11_211 : clV RX11 211 m_X3_touchesInWords 3 := ⟨T_5 45 rfl rfl, T_5 46 rfl rfl, T_5 47 rfl rfl, T_1 6 rfl rfl, T_5 48 rfl rfl, ⟨nh_RX3.1, nh_RX3.2, ar_X3_touchesInWords⟩, by decide⟩
theorem cv_X3_38 : clV RX3 38 m_X3_above 1 := ⟨T_5 49 rfl rfl, T_5 1 rfl rfl, T_5 2 rfl rfl, T_1 6 rfl rfl, T_5 3 rfl rfl, ⟨nh_RX3.1, nh_RX3.2, ar_X3_above⟩, by decide⟩
theorem cs_X3_59 : clS RX3 59 m_X3_wordOf 1 := ⟨T_5 50 rfl rfl, T_5 51 rfl rfl, T_1 6 rfl rfl, T_5 52 rfl rfl, ⟨nh_RX3.1, nh_RX3.2, ar_X3_wordOf⟩, by decide⟩
theorem cv_X3_41 : clV RX3 41 m_X3_below 1 := ⟨T_5 53 rfl rfl, T_5 12 rfl rfl, T_5 13 rfl rfl, T_1 6 rfl rfl, T_5 14 rfl rfl, ⟨nh_RX3.1, nh_RX3.2, ar_X3_below⟩, by decide⟩
theorem cv_X11_215 : clV RX11 215 m_X3_touchesInRow 2 := ⟨T_5 54 rfl rfl, T_5 55 rfl rfl, T_5 56 rfl rfl, T_1 6 rfl rfl, T_5 57 rfl rfl, ⟨nh_RX3.1, nh_RX3.2, ar_X3_touchesInRow⟩, by decide⟩
theorem cv_L_54 : clV RL 54 m_X11_size 2 := ⟨T_5 61 rfl rfl, T_5 62 rfl rfl, T_5 63 rfl rfl, T_1 1 rfl rfl, T_5 64 rfl rfl, ⟨nh_RX11.1, nh_RX11.2, ar_X11_size⟩, by decide⟩
theorem cv_X11_218 : clV RX11 218 m_X1_allCells 0 := ⟨T_5 65 rfl rfl, T_5 66 rfl rfl, T_5 67 rfl rfl, T_1 8 rfl rfl, T_5 68 rfl rfl, ⟨nh_RX1.1, nh_RX1.2, ar_X1_allCells⟩, by decide⟩
theorem cv_X1_128 : clV RX1 128 m_X1_cellsOf 4 := ⟨T_5 69 rfl rfl, T_5 71 rfl rfl, T_0 29 rfl rfl, T_1 8 rfl rfl, T_5 72 rfl rfl, ⟨nh_RX1.1, nh_RX1.2, ar_X1_cellsOf⟩, by decide⟩
theorem cs_X11_225 : clS RX11 225 m_X3_wordOf 1 := ⟨T_5 73 rfl rfl, T_5 51 rfl rfl, T_1 6 rfl rfl, T_5 52 rfl rfl, ⟨nh_RX3.1, nh_RX3.2, ar_X3_wordOf⟩, by decide⟩
theorem cv_L_57 : clV RL 57 m_X11_bound 1 := ⟨T_5 77 rfl rfl, T_5 78 rfl rfl, T_5 79 rfl rfl, T_1 1 rfl rfl, T_5 80 rfl rfl, ⟨nh_RX11.1, nh_RX11.2, ar_X11_bound⟩, by decide⟩
theorem cv_X11_229 : clV RX11 229 m_X5_boundOf 1 := ⟨T_5 81 rfl rfl, T_5 82 rfl rfl, T_5 83 rfl rfl, T_1 3 rfl rfl, T_5 84 rfl rfl, ⟨nh_RX5.1, nh_RX5.2, ar_X5_boundOf⟩, by decide⟩
theorem cn_X5_27 : Cond.constant RX5 27 1048576 ∈ TT := T_5 85 rfl rfl
theorem cv_X5_28 : clV RX5 28 m_X5_mostTouches 3 := ⟨T_5 86 rfl rfl, T_5 87 rfl rfl, T_5 88 rfl rfl, T_1 3 rfl rfl, T_5 89 rfl rfl, ⟨nh_RX5.1, nh_RX5.2, ar_X5_mostTouches⟩, by decide⟩
theorem cv_X5_32 : clV RX5 32 m_X5_lowerBits 1 := ⟨T_5 90 rfl rfl, T_4 158 rfl rfl, T_4 159 rfl rfl, T_1 3 rfl rfl, T_4 160 rfl rfl, ⟨nh_RX5.1, nh_RX5.2, ar_X5_lowerBits⟩, by decide⟩
theorem cs_X5_36 : clS RX5 36 m_J9_max_7cf53 2 := ⟨T_5 91 rfl rfl, T_4 78 rfl rfl, T_1 22 rfl rfl, T_4 79 rfl rfl, ⟨nh_RJ9.1, nh_RJ9.2, ar_J9_max_7cf53⟩, by decide⟩
theorem cv_L_60 : clV RL 60 m_X11_worst 3 := ⟨T_5 95 rfl rfl, T_5 96 rfl rfl, T_5 97 rfl rfl, T_1 1 rfl rfl, T_5 98 rfl rfl, ⟨nh_RX11.1, nh_RX11.2, ar_X11_worst⟩, by decide⟩
theorem cv_X11_232 : clV RX11 232 m_X11_mayGoThroughAll 2 := ⟨T_5 99 rfl rfl, T_5 101 rfl rfl, T_0 30 rfl rfl, T_1 1 rfl rfl, T_5 102 rfl rfl, ⟨nh_RX11.1, nh_RX11.2, ar_X11_mayGoThroughAll⟩, by decide⟩
theorem cv_X11_299 : clV RX11 299 m_X5_isSmall 0 := ⟨T_5 103 rfl rfl, T_5 104 rfl rfl, T_5 105 rfl rfl, T_1 3 rfl rfl, T_5 106 rfl rfl, ⟨nh_RX5.1, nh_RX5.2, ar_X5_isSmall⟩, by decide⟩
theorem cv_X11_296 : clV RX11 296 m_X5_mostInSets 0 := ⟨T_5 107 rfl rfl, T_5 108 rfl rfl, T_5 109 rfl rfl, T_1 3 rfl rfl, T_5 110 rfl rfl, ⟨nh_RX5.1, nh_RX5.2, ar_X5_mostInSets⟩, by decide⟩
theorem cv_X11_235 : clV RX11 235 m_X10_learn 2 := ⟨T_5 111 rfl rfl, T_5 112 rfl rfl, T_5 113 rfl rfl, T_1 9 rfl rfl, T_5 114 rfl rfl, ⟨nh_RX10.1, nh_RX10.2, ar_X10_learn⟩, by decide⟩
theorem cv_X10_50 : clV RX10 50 m_X10_goThroughAll 2 := ⟨T_5 115 rfl rfl, T_5 117 rfl rfl, T_0 31 rfl rfl, T_1 9 rfl rfl, T_5 118 rfl rfl, ⟨nh_RX10.1, nh_RX10.2, ar_X10_goThroughAll⟩, by decide⟩
theorem cv_X10_54 : clV RX10 54 m_X5_greatest 0 := ⟨T_5 119 rfl rfl, T_4 126 rfl rfl, T_4 127 rfl rfl, T_1 3 rfl rfl, T_4 128 rfl rfl, ⟨nh_RX5.1, nh_RX5.2, ar_X5_greatest⟩, by decide⟩
theorem cv_X10_64 : clV RX10 64 m_X5_mostTouches 3 := ⟨T_5 120 rfl rfl, T_5 87 rfl rfl, T_5 88 rfl rfl, T_1 3 rfl rfl, T_5 89 rfl rfl, ⟨nh_RX5.1, nh_RX5.2, ar_X5_mostTouches⟩, by decide⟩
theorem cv_X10_68 : clV RX10 68 m_X3_beFirstSet 1 := ⟨T_5 121 rfl rfl, T_5 122 rfl rfl, T_5 123 rfl rfl, T_1 6 rfl rfl, T_5 124 rfl rfl, ⟨nh_RX3.1, nh_RX3.2, ar_X3_beFirstSet⟩, by decide⟩
theorem cs_X3_19 : clS RX3 19 m_J9_min_7cf53 2 := ⟨T_5 125 rfl rfl, T_3 212 rfl rfl, T_1 22 rfl rfl, T_3 213 rfl rfl, ⟨nh_RJ9.1, nh_RJ9.2, ar_J9_min_7cf53⟩, by decide⟩
theorem cn_X10_71 : Cond.constant RX10 71 1000000 ∈ TT := T_5 126 rfl rfl
theorem cv_X10_72 : clV RX10 72 m_X10_tryAll 2 := ⟨T_5 127 rfl rfl, T_5 129 rfl rfl, T_0 32 rfl rfl, T_1 9 rfl rfl, T_5 130 rfl rfl, ⟨nh_RX10.1, nh_RX10.2, ar_X10_tryAll⟩, by decide⟩
theorem cv_X10_79 : clV RX10 79 m_X1_touchesOf 2 := ⟨T_5 131 rfl rfl, T_4 146 rfl rfl, T_4 147 rfl rfl, T_1 8 rfl rfl, T_4 148 rfl rfl, ⟨nh_RX1.1, nh_RX1.2, ar_X1_touchesOf⟩, by decide⟩
theorem cv_X10_83 : clV RX10 83 m_X10_bitsOfSet 0 := ⟨T_5 132 rfl rfl, T_5 134 rfl rfl, T_0 33 rfl rfl, T_1 9 rfl rfl, T_5 135 rfl rfl, ⟨nh_RX10.1, nh_RX10.2, ar_X10_bitsOfSet⟩, by decide⟩
theorem cv_X10_90 : clV RX10 90 m_X3_at 1 := ⟨T_5 136 rfl rfl, T_4 226 rfl rfl, T_4 227 rfl rfl, T_1 6 rfl rfl, T_4 228 rfl rfl, ⟨nh_RX3.1, nh_RX3.2, ar_X3_at⟩, by decide⟩
theorem cv_X10_75 : clV RX10 75 m_X3_beNextSet 1 := ⟨T_5 137 rfl rfl, T_5 138 rfl rfl, T_5 139 rfl rfl, T_1 6 rfl rfl, T_5 140 rfl rfl, ⟨nh_RX3.1, nh_RX3.2, ar_X3_beNextSet⟩, by decide⟩
theorem cs_X11_246 : clS RX11 246 m_J13_bitCount_95d88 1 := ⟨T_5 141 rfl rfl, T_5 142 rfl rfl, T_1 25 rfl rfl, T_5 143 rfl rfl, ⟨nh_RJ13.1, nh_RJ13.2, ar_J13_bitCount_95d88⟩, by decide⟩
theorem cl_J13_314 : Cond.constantLong RJ13 314 6148914691236517205 ∈ TT := T_5 144 rfl rfl
theorem cl_J13_316 : Cond.constantLong RJ13 316 3689348814741910323 ∈ TT := T_5 145 rfl rfl
theorem cl_J13_318 : Cond.constantLong RJ13 318 1085102592571150095 ∈ TT := T_5 146 rfl rfl
theorem cv_L_63 : clV RL 63 m_X11_bad 3 := ⟨T_5 150 rfl rfl, T_5 151 rfl rfl, T_5 152 rfl rfl, T_1 1 rfl rfl, T_5 153 rfl rfl, ⟨nh_RX11.1, nh_RX11.2, ar_X11_bad⟩, by decide⟩
theorem cv_X11_255 : clV RX11 255 m_X10_member 3 := ⟨T_5 154 rfl rfl, T_5 155 rfl rfl, T_5 156 rfl rfl, T_1 9 rfl rfl, T_5 157 rfl rfl, ⟨nh_RX10.1, nh_RX10.2, ar_X10_member⟩, by decide⟩
theorem cv_L_66 : clV RL 66 m_X11_was 3 := ⟨T_5 161 rfl rfl, T_5 162 rfl rfl, T_5 163 rfl rfl, T_1 1 rfl rfl, T_5 164 rfl rfl, ⟨nh_RX11.1, nh_RX11.2, ar_X11_was⟩, by decide⟩
theorem cv_X11_258 : clV RX11 258 m_X2_fillPast 2 := ⟨T_5 165 rfl rfl, T_5 166 rfl rfl, T_5 167 rfl rfl, T_1 12 rfl rfl, T_5 168 rfl rfl, ⟨nh_RX2.1, nh_RX2.2, ar_X2_fillPast⟩, by decide⟩
theorem cv_L_69 : clV RL 69 m_X11_asked 4 := ⟨T_5 172 rfl rfl, T_5 173 rfl rfl, T_5 174 rfl rfl, T_1 1 rfl rfl, T_5 175 rfl rfl, ⟨nh_RX11.1, nh_RX11.2, ar_X11_asked⟩, by decide⟩
theorem cv_X11_262 : clV RX11 262 m_X3_answer 2 := ⟨T_5 176 rfl rfl, T_5 177 rfl rfl, T_5 178 rfl rfl, T_1 6 rfl rfl, T_5 179 rfl rfl, ⟨nh_RX3.1, nh_RX3.2, ar_X3_answer⟩, by decide⟩
theorem cv_X3_44 : clV RX3 44 m_X3_add 1 := ⟨T_5 180 rfl rfl, T_3 20 rfl rfl, T_3 21 rfl rfl, T_1 6 rfl rfl, T_3 22 rfl rfl, ⟨nh_RX3.1, nh_RX3.2, ar_X3_add⟩, by decide⟩
theorem cv_X3_48 : clV RX3 48 m_X3_remove 1 := ⟨T_5 181 rfl rfl, T_3 31 rfl rfl, T_3 32 rfl rfl, T_1 6 rfl rfl, T_3 33 rfl rfl, ⟨nh_RX3.1, nh_RX3.2, ar_X3_remove⟩, by decide⟩
theorem cv_X3_51 : clV RX3 51 m_X3_holds 1 := ⟨T_5 182 rfl rfl, T_4 134 rfl rfl, T_4 135 rfl rfl, T_1 6 rfl rfl, T_4 136 rfl rfl, ⟨nh_RX3.1, nh_RX3.2, ar_X3_holds⟩, by decide⟩
theorem cv_L_72 : clV RL 72 m_X11_since 3 := ⟨T_5 186 rfl rfl, T_5 187 rfl rfl, T_5 188 rfl rfl, T_1 1 rfl rfl, T_5 189 rfl rfl, ⟨nh_RX11.1, nh_RX11.2, ar_X11_since⟩, by decide⟩
theorem cv_X11_265 : clV RX11 265 m_X2_lastChange 2 := ⟨T_5 190 rfl rfl, T_5 191 rfl rfl, T_5 192 rfl rfl, T_1 12 rfl rfl, T_5 193 rfl rfl, ⟨nh_RX2.1, nh_RX2.2, ar_X2_lastChange⟩, by decide⟩
theorem cv_L_75 : clV RL 75 m_X11_room 2 := ⟨T_5 197 rfl rfl, T_5 198 rfl rfl, T_5 199 rfl rfl, T_1 1 rfl rfl, T_5 200 rfl rfl, ⟨nh_RX11.1, nh_RX11.2, ar_X11_room⟩, by decide⟩
theorem cv_X11_268 : clV RX11 268 m_X2_copying 0 := ⟨T_5 201 rfl rfl, T_5 202 rfl rfl, T_5 203 rfl rfl, T_1 12 rfl rfl, T_5 204 rfl rfl, ⟨nh_RX2.1, nh_RX2.2, ar_X2_copying⟩, by decide⟩
theorem cv_L_78 : clV RL 78 m_X11_joins 3 := ⟨T_5 208 rfl rfl, T_5 209 rfl rfl, T_5 210 rfl rfl, T_1 1 rfl rfl, T_5 211 rfl rfl, ⟨nh_RX11.1, nh_RX11.2, ar_X11_joins⟩, by decide⟩
theorem cv_X11_271 : clV RX11 271 m_X3_commonFrom 2 := ⟨T_5 212 rfl rfl, T_5 213 rfl rfl, T_5 214 rfl rfl, T_1 6 rfl rfl, T_5 215 rfl rfl, ⟨nh_RX3.1, nh_RX3.2, ar_X3_commonFrom⟩, by decide⟩
theorem cv_X11_275 : clV RX11 275 m_X2_refusal 2 := ⟨T_5 216 rfl rfl, T_4 138 rfl rfl, T_4 139 rfl rfl, T_1 12 rfl rfl, T_4 140 rfl rfl, ⟨nh_RX2.1, nh_RX2.2, ar_X2_refusal⟩, by decide⟩
theorem cv_X11_278 : clV RX11 278 m_X2_dropAllBut 1 := ⟨T_5 217 rfl rfl, T_5 218 rfl rfl, T_5 219 rfl rfl, T_1 12 rfl rfl, T_5 220 rfl rfl, ⟨nh_RX2.1, nh_RX2.2, ar_X2_dropAllBut⟩, by decide⟩
theorem cv_X2_66 : clV RX2 66 m_X3_at 1 := ⟨T_5 221 rfl rfl, T_4 226 rfl rfl, T_4 227 rfl rfl, T_1 6 rfl rfl, T_4 228 rfl rfl, ⟨nh_RX3.1, nh_RX3.2, ar_X3_at⟩, by decide⟩
theorem cv_X11_282 : clV RX11 282 m_X2_makeAll 2 := ⟨T_5 222 rfl rfl, T_5 223 rfl rfl, T_5 224 rfl rfl, T_1 12 rfl rfl, T_5 225 rfl rfl, ⟨nh_RX2.1, nh_RX2.2, ar_X2_makeAll⟩, by decide⟩
theorem cv_L_81 : clV RL 81 m_X11_runs 2 := ⟨T_5 229 rfl rfl, T_5 230 rfl rfl, T_5 231 rfl rfl, T_1 1 rfl rfl, T_5 232 rfl rfl, ⟨nh_RX11.1, nh_RX11.2, ar_X11_runs⟩, by decide⟩
theorem cv_X11_285 : clV RX11 285 m_X3_runsWith 1 := ⟨T_5 233 rfl rfl, T_5 234 rfl rfl, T_5 235 rfl rfl, T_1 6 rfl rfl, T_5 236 rfl rfl, ⟨nh_RX3.1, nh_RX3.2, ar_X3_runsWith⟩, by decide⟩
theorem cs_X3_54 : clS RX3 54 m_J6_compare_7cf53 2 := ⟨T_5 237 rfl rfl, T_5 238 rfl rfl, T_1 26 rfl rfl, T_5 239 rfl rfl, ⟨nh_RJ6.1, nh_RJ6.2, ar_J6_compare_7cf53⟩, by decide⟩
theorem cv_L_84 : clV RL 84 m_X11_steals 4 := ⟨T_6 4 rfl rfl, T_6 5 rfl rfl, T_6 6 rfl rfl, T_1 1 rfl rfl, T_6 7 rfl rfl, ⟨nh_RX11.1, nh_RX11.2, ar_X11_steals⟩, by decide⟩
theorem cv_X11_288 : clV RX11 288 m_X11_needThief 1 := ⟨T_6 8 rfl rfl, T_6 10 rfl rfl, T_0 34 rfl rfl, T_1 1 rfl rfl, T_6 11 rfl rfl, ⟨nh_RX11.1, nh_RX11.2, ar_X11_needThief⟩, by decide⟩
theorem cv_X11_291 : clV RX11 291 m_X4_go 3 := ⟨T_6 27 rfl rfl, T_6 28 rfl rfl, T_6 29 rfl rfl, T_1 7 rfl rfl, T_6 30 rfl rfl, ⟨nh_RX4.1, nh_RX4.2, ar_X4_go⟩, by decide⟩
theorem cv_X4_57 : clV RX4 57 m_X4_begin 2 := ⟨T_6 31 rfl rfl, T_6 33 rfl rfl, T_0 35 rfl rfl, T_1 7 rfl rfl, T_6 34 rfl rfl, ⟨nh_RX4.1, nh_RX4.2, ar_X4_begin⟩, by decide⟩
theorem cv_X4_96 : clV RX4 96 m_X3_copyFrom 1 := ⟨T_6 35 rfl rfl, T_6 36 rfl rfl, T_6 37 rfl rfl, T_1 6 rfl rfl, T_6 38 rfl rfl, ⟨nh_RX3.1, nh_RX3.2, ar_X3_copyFrom⟩, by decide⟩
theorem cn_X4_61 : Cond.constant RX4 61 4000000 ∈ TT := T_6 39 rfl rfl
theorem cv_X4_71 : clV RX4 71 m_X4_step 1 := ⟨T_6 40 rfl rfl, T_6 42 rfl rfl, T_0 36 rfl rfl, T_1 7 rfl rfl, T_6 43 rfl rfl, ⟨nh_RX4.1, nh_RX4.2, ar_X4_step⟩, by decide⟩
theorem cv_X4_115 : clV RX4 115 m_X4_hold 1 := ⟨T_6 44 rfl rfl, T_6 46 rfl rfl, T_0 37 rfl rfl, T_1 7 rfl rfl, T_6 47 rfl rfl, ⟨nh_RX4.1, nh_RX4.2, ar_X4_hold⟩, by decide⟩
theorem cv_X4_118 : clV RX4 118 m_X4_nextDraw 0 := ⟨T_6 48 rfl rfl, T_6 50 rfl rfl, T_0 38 rfl rfl, T_1 7 rfl rfl, T_6 51 rfl rfl, ⟨nh_RX4.1, nh_RX4.2, ar_X4_nextDraw⟩, by decide⟩
theorem cn_X4_141 : Cond.constant RX4 141 1103515245 ∈ TT := T_6 52 rfl rfl
theorem cn_X4_142 : Cond.constant RX4 142 65535 ∈ TT := T_6 53 rfl rfl
theorem cv_X4_125 : clV RX4 125 m_X5_greatest 0 := ⟨T_6 54 rfl rfl, T_4 126 rfl rfl, T_4 127 rfl rfl, T_1 3 rfl rfl, T_4 128 rfl rfl, ⟨nh_RX5.1, nh_RX5.2, ar_X5_greatest⟩, by decide⟩
theorem cv_X4_122 : clV RX4 122 m_X4_yieldHeld 0 := ⟨T_6 55 rfl rfl, T_6 57 rfl rfl, T_0 39 rfl rfl, T_1 7 rfl rfl, T_6 58 rfl rfl, ⟨nh_RX4.1, nh_RX4.2, ar_X4_yieldHeld⟩, by decide⟩
theorem cv_X4_130 : clV RX4 130 m_X4_makeCall 2 := ⟨T_6 59 rfl rfl, T_6 61 rfl rfl, T_0 40 rfl rfl, T_1 7 rfl rfl, T_6 62 rfl rfl, ⟨nh_RX4.1, nh_RX4.2, ar_X4_makeCall⟩, by decide⟩
theorem cv_X4_143 : clV RX4 143 m_X1_touchesOf 2 := ⟨T_6 63 rfl rfl, T_4 146 rfl rfl, T_4 147 rfl rfl, T_1 8 rfl rfl, T_4 148 rfl rfl, ⟨nh_RX1.1, nh_RX1.2, ar_X1_touchesOf⟩, by decide⟩
theorem cv_X4_150 : clV RX4 150 m_X3_touchesInWords 3 := ⟨T_6 64 rfl rfl, T_5 46 rfl rfl, T_5 47 rfl rfl, T_1 6 rfl rfl, T_5 48 rfl rfl, ⟨nh_RX3.1, nh_RX3.2, ar_X3_touchesInWords⟩, by decide⟩
theorem cv_X4_154 : clV RX4 154 m_X3_touchesInRow 2 := ⟨T_6 65 rfl rfl, T_5 55 rfl rfl, T_5 56 rfl rfl, T_1 6 rfl rfl, T_5 57 rfl rfl, ⟨nh_RX3.1, nh_RX3.2, ar_X3_touchesInRow⟩, by decide⟩
theorem cv_X4_157 : clV RX4 157 m_X3_answer 2 := ⟨T_6 66 rfl rfl, T_5 177 rfl rfl, T_5 178 rfl rfl, T_1 6 rfl rfl, T_5 179 rfl rfl, ⟨nh_RX3.1, nh_RX3.2, ar_X3_answer⟩, by decide⟩
theorem cv_X4_134 : clV RX4 134 m_X4_goRound 2 := ⟨T_6 67 rfl rfl, T_6 69 rfl rfl, T_0 41 rfl rfl, T_1 7 rfl rfl, T_6 70 rfl rfl, ⟨nh_RX4.1, nh_RX4.2, ar_X4_goRound⟩, by decide⟩
theorem cv_X4_138 : clV RX4 138 m_X4_reckon 1 := ⟨T_6 71 rfl rfl, T_6 73 rfl rfl, T_0 42 rfl rfl, T_1 7 rfl rfl, T_6 74 rfl rfl, ⟨nh_RX4.1, nh_RX4.2, ar_X4_reckon⟩, by decide⟩
theorem cv_X11_295 : clV RX11 295 m_X4_tell 1 := ⟨T_6 75 rfl rfl, T_6 76 rfl rfl, T_6 77 rfl rfl, T_1 7 rfl rfl, T_6 78 rfl rfl, ⟨nh_RX4.1, nh_RX4.2, ar_X4_tell⟩, by decide⟩
theorem cv_L_89 : clV RL 89 m_X11_reached 1 := ⟨T_6 82 rfl rfl, T_6 83 rfl rfl, T_6 84 rfl rfl, T_1 1 rfl rfl, T_6 85 rfl rfl, ⟨nh_RX11.1, nh_RX11.2, ar_X11_reached⟩, by decide⟩
theorem cv_L_92 : clV RL 92 m_X11_row 1 := ⟨T_6 89 rfl rfl, T_6 90 rfl rfl, T_6 91 rfl rfl, T_1 1 rfl rfl, T_6 92 rfl rfl, ⟨nh_RX11.1, nh_RX11.2, ar_X11_row⟩, by decide⟩
theorem cv_X11_302 : clV RX11 302 m_X5_mostInRows 0 := ⟨T_6 93 rfl rfl, T_6 94 rfl rfl, T_6 95 rfl rfl, T_1 3 rfl rfl, T_6 96 rfl rfl, ⟨nh_RX5.1, nh_RX5.2, ar_X5_mostInRows⟩, by decide⟩
theorem cv_X11_305 : clV RX11 305 m_X0_learn 1 := ⟨T_6 97 rfl rfl, T_6 98 rfl rfl, T_6 99 rfl rfl, T_1 10 rfl rfl, T_6 100 rfl rfl, ⟨nh_RX0.1, nh_RX0.2, ar_X0_learn⟩, by decide⟩
theorem cv_X0_50 : clV RX0 50 m_X0_setLimits 0 := ⟨T_6 101 rfl rfl, T_6 103 rfl rfl, T_0 43 rfl rfl, T_1 10 rfl rfl, T_6 104 rfl rfl, ⟨nh_RX0.1, nh_RX0.2, ar_X0_setLimits⟩, by decide⟩
theorem cv_X0_63 : clV RX0 63 m_X0_limitOf 3 := ⟨T_6 105 rfl rfl, T_6 107 rfl rfl, T_0 44 rfl rfl, T_1 10 rfl rfl, T_6 108 rfl rfl, ⟨nh_RX0.1, nh_RX0.2, ar_X0_limitOf⟩, by decide⟩
theorem cv_X0_78 : clV RX0 78 m_X5_mostTouches 3 := ⟨T_6 109 rfl rfl, T_5 87 rfl rfl, T_5 88 rfl rfl, T_1 3 rfl rfl, T_5 89 rfl rfl, ⟨nh_RX5.1, nh_RX5.2, ar_X5_mostTouches⟩, by decide⟩
theorem cs_X0_67 : clS RX0 67 m_J9_max_7cf53 2 := ⟨T_6 110 rfl rfl, T_4 78 rfl rfl, T_1 22 rfl rfl, T_4 79 rfl rfl, ⟨nh_RJ9.1, nh_RJ9.2, ar_J9_max_7cf53⟩, by decide⟩
theorem cv_X0_53 : clV RX0 53 m_X3_clear 0 := ⟨T_6 111 rfl rfl, T_3 230 rfl rfl, T_3 231 rfl rfl, T_1 6 rfl rfl, T_3 232 rfl rfl, ⟨nh_RX3.1, nh_RX3.2, ar_X3_clear⟩, by decide⟩
theorem cv_X0_56 : clV RX0 56 m_X0_find 2 := ⟨T_6 112 rfl rfl, T_6 114 rfl rfl, T_0 45 rfl rfl, T_1 10 rfl rfl, T_6 115 rfl rfl, ⟨nh_RX0.1, nh_RX0.2, ar_X0_find⟩, by decide⟩
theorem cv_X0_84 : clV RX0 84 m_X5_greatest 0 := ⟨T_6 116 rfl rfl, T_4 126 rfl rfl, T_4 127 rfl rfl, T_1 3 rfl rfl, T_4 128 rfl rfl, ⟨nh_RX5.1, nh_RX5.2, ar_X5_greatest⟩, by decide⟩
theorem cv_X0_88 : clV RX0 88 m_X0_findBehind 4 := ⟨T_6 117 rfl rfl, T_6 119 rfl rfl, T_0 46 rfl rfl, T_1 10 rfl rfl, T_6 120 rfl rfl, ⟨nh_RX0.1, nh_RX0.2, ar_X0_findBehind⟩, by decide⟩
theorem cv_X0_92 : clV RX0 92 m_X1_touchesOf 2 := ⟨T_6 121 rfl rfl, T_4 146 rfl rfl, T_4 147 rfl rfl, T_1 8 rfl rfl, T_4 148 rfl rfl, ⟨nh_RX1.1, nh_RX1.2, ar_X1_touchesOf⟩, by decide⟩
theorem cv_X0_95 : clV RX0 95 m_X3_add 1 := ⟨T_6 122 rfl rfl, T_3 20 rfl rfl, T_3 21 rfl rfl, T_1 6 rfl rfl, T_3 22 rfl rfl, ⟨nh_RX3.1, nh_RX3.2, ar_X3_add⟩, by decide⟩
theorem cv_X0_99 : clV RX0 99 m_X3_remove 1 := ⟨T_6 123 rfl rfl, T_3 31 rfl rfl, T_3 32 rfl rfl, T_1 6 rfl rfl, T_3 33 rfl rfl, ⟨nh_RX3.1, nh_RX3.2, ar_X3_remove⟩, by decide⟩
theorem cv_L_95 : clV RL 95 m_X11_rowCall 2 := ⟨T_6 127 rfl rfl, T_6 128 rfl rfl, T_6 129 rfl rfl, T_1 1 rfl rfl, T_6 130 rfl rfl, ⟨nh_RX11.1, nh_RX11.2, ar_X11_rowCall⟩, by decide⟩
theorem cv_X11_307 : clV RX11 307 m_X0_callAt 2 := ⟨T_6 131 rfl rfl, T_6 132 rfl rfl, T_6 133 rfl rfl, T_1 10 rfl rfl, T_6 134 rfl rfl, ⟨nh_RX0.1, nh_RX0.2, ar_X0_callAt⟩, by decide⟩
theorem cv_L_98 : clV RL 98 m_X11_split 3 := ⟨T_6 138 rfl rfl, T_6 139 rfl rfl, T_6 140 rfl rfl, T_1 1 rfl rfl, T_6 141 rfl rfl, ⟨nh_RX11.1, nh_RX11.2, ar_X11_split⟩, by decide⟩
theorem cv_X11_310 : clV RX11 310 m_X2_make 2 := ⟨T_6 142 rfl rfl, T_4 142 rfl rfl, T_4 143 rfl rfl, T_1 12 rfl rfl, T_4 144 rfl rfl, ⟨nh_RX2.1, nh_RX2.2, ar_X2_make⟩, by decide⟩
theorem cv_L_101 : clV RL 101 m_X11_gap 2 := ⟨T_6 146 rfl rfl, T_6 147 rfl rfl, T_6 148 rfl rfl, T_1 1 rfl rfl, T_6 149 rfl rfl, ⟨nh_RX11.1, nh_RX11.2, ar_X11_gap⟩, by decide⟩
theorem cv_X11_313 : clV RX11 313 m_X3_widestGap 0 := ⟨T_6 150 rfl rfl, T_6 151 rfl rfl, T_6 152 rfl rfl, T_1 6 rfl rfl, T_6 153 rfl rfl, ⟨nh_RX3.1, nh_RX3.2, ar_X3_widestGap⟩, by decide⟩
theorem cv_L_104 : clV RL 104 m_X11_seeds 5 := ⟨T_6 157 rfl rfl, T_6 158 rfl rfl, T_6 159 rfl rfl, T_1 1 rfl rfl, T_6 160 rfl rfl, ⟨nh_RX11.1, nh_RX11.2, ar_X11_seeds⟩, by decide⟩
theorem cv_L_122 : clV RL 122 m_X12_thrown 0 := ⟨T_6 161 rfl rfl, T_6 162 rfl rfl, T_6 163 rfl rfl, T_1 13 rfl rfl, T_6 164 rfl rfl, ⟨nh_RX12.1, nh_RX12.2, ar_X12_thrown⟩, by decide⟩
theorem cn_X12_93 : Cond.constant RX12 93 458752 ∈ TT := T_6 171 rfl rfl
theorem cv_L_115 : clV RL 115 m_X12_feed 5 := ⟨T_7 112 rfl rfl, T_7 113 rfl rfl, T_7 114 rfl rfl, T_1 13 rfl rfl, T_7 115 rfl rfl, ⟨nh_RX12.1, nh_RX12.2, ar_X12_feed⟩, by decide⟩
theorem cv_L_132 : clV RL 132 m_X12_fault 0 := ⟨T_7 116 rfl rfl, T_7 117 rfl rfl, T_7 118 rfl rfl, T_1 13 rfl rfl, T_7 119 rfl rfl, ⟨nh_RX12.1, nh_RX12.2, ar_X12_fault⟩, by decide⟩
theorem cv_L_121 : clV RL 121 m_X12_shape 1 := ⟨T_7 120 rfl rfl, T_7 121 rfl rfl, T_7 122 rfl rfl, T_1 13 rfl rfl, T_7 123 rfl rfl, ⟨nh_RX12.1, nh_RX12.2, ar_X12_shape⟩, by decide⟩
theorem cv_X12_157 : clV RX12 157 m_X12_may 3 := ⟨T_7 124 rfl rfl, T_7 126 rfl rfl, T_0 47 rfl rfl, T_1 13 rfl rfl, T_7 127 rfl rfl, ⟨nh_RX12.1, nh_RX12.2, ar_X12_may⟩, by decide⟩
theorem cv_X12_161 : clV RX12 161 m_X12_begins 1 := ⟨T_7 128 rfl rfl, T_7 130 rfl rfl, T_0 48 rfl rfl, T_1 13 rfl rfl, T_7 131 rfl rfl, ⟨nh_RX12.1, nh_RX12.2, ar_X12_begins⟩, by decide⟩
theorem cv_X12_141 : clV RX12 141 m_X12_fine 0 := ⟨T_7 132 rfl rfl, T_7 134 rfl rfl, T_0 49 rfl rfl, T_1 13 rfl rfl, T_7 135 rfl rfl, ⟨nh_RX12.1, nh_RX12.2, ar_X12_fine⟩, by decide⟩
theorem cv_X12_165 : clV RX12 165 m_X12_isMore 0 := ⟨T_7 136 rfl rfl, T_7 138 rfl rfl, T_0 50 rfl rfl, T_1 13 rfl rfl, T_7 139 rfl rfl, ⟨nh_RX12.1, nh_RX12.2, ar_X12_isMore⟩, by decide⟩
theorem cv_X12_124 : clV RX12 124 m_X12_here 0 := ⟨T_7 140 rfl rfl, T_7 142 rfl rfl, T_0 51 rfl rfl, T_1 13 rfl rfl, T_7 143 rfl rfl, ⟨nh_RX12.1, nh_RX12.2, ar_X12_here⟩, by decide⟩
theorem cv_X12_168 : clV RX12 168 m_X12_word 0 := ⟨T_7 144 rfl rfl, T_7 146 rfl rfl, T_0 52 rfl rfl, T_1 13 rfl rfl, T_7 147 rfl rfl, ⟨nh_RX12.1, nh_RX12.2, ar_X12_word⟩, by decide⟩
theorem cs_X12_128 : clS RX12 128 m_X12_isSmall 1 := ⟨T_7 148 rfl rfl, T_7 149 rfl rfl, T_1 13 rfl rfl, T_7 150 rfl rfl, ⟨nh_RX12.1, nh_RX12.2, ar_X12_isSmall⟩, by decide⟩
theorem cs_X12_172 : clS RX12 172 m_X12_of 1 := ⟨T_7 152 rfl rfl, T_7 153 rfl rfl, T_1 13 rfl rfl, T_7 154 rfl rfl, ⟨nh_RX12.1, nh_RX12.2, ar_X12_of⟩, by decide⟩
theorem cv_X12_132 : clV RX12 132 m_J0_length_8abf5 0 := ⟨T_7 155 rfl rfl, T_3 149 rfl rfl, T_3 150 rfl rfl, T_1 18 rfl rfl, T_3 151 rfl rfl, ⟨nh_RJ0.1, nh_RJ0.2, ar_J0_length_8abf5⟩, by decide⟩
theorem cv_X12_137 : clV RX12 137 m_J0_charAt_5068e 1 := ⟨T_7 156 rfl rfl, T_3 159 rfl rfl, T_3 160 rfl rfl, T_1 18 rfl rfl, T_3 161 rfl rfl, ⟨nh_RJ0.1, nh_RJ0.2, ar_J0_charAt_5068e⟩, by decide⟩
theorem cv_X12_148 : clV RX12 148 m_X12_wrong 2 := ⟨T_7 159 rfl rfl, T_7 161 rfl rfl, T_0 53 rfl rfl, T_1 13 rfl rfl, T_7 162 rfl rfl, ⟨nh_RX12.1, nh_RX12.2, ar_X12_wrong⟩, by decide⟩
theorem cv_X12_179 : clV RX12 179 m_X12_pass 0 := ⟨T_7 163 rfl rfl, T_7 165 rfl rfl, T_0 54 rfl rfl, T_1 13 rfl rfl, T_7 166 rfl rfl, ⟨nh_RX12.1, nh_RX12.2, ar_X12_pass⟩, by decide⟩
theorem cv_X12_182 : clV RX12 182 m_X12_readNumber 2 := ⟨T_7 167 rfl rfl, T_7 169 rfl rfl, T_0 55 rfl rfl, T_1 13 rfl rfl, T_7 170 rfl rfl, ⟨nh_RX12.1, nh_RX12.2, ar_X12_readNumber⟩, by decide⟩
theorem cs_X12_145 : clS RX12 145 m_X12_isDigit 1 := ⟨T_7 171 rfl rfl, T_7 172 rfl rfl, T_1 13 rfl rfl, T_7 173 rfl rfl, ⟨nh_RX12.1, nh_RX12.2, ar_X12_isDigit⟩, by decide⟩
theorem cn_X12_152 : Cond.constant RX12 152 99999 ∈ TT := T_7 174 rfl rfl
theorem cn_X12_153 : Cond.constant RX12 153 100000 ∈ TT := T_7 175 rfl rfl
theorem cv_X12_189 : clV RX12 189 m_X12_sign 1 := ⟨T_7 178 rfl rfl, T_7 180 rfl rfl, T_0 56 rfl rfl, T_1 13 rfl rfl, T_7 181 rfl rfl, ⟨nh_RX12.1, nh_RX12.2, ar_X12_sign⟩, by decide⟩
theorem cv_X12_192 : clV RX12 192 m_X12_result 1 := ⟨T_7 182 rfl rfl, T_7 184 rfl rfl, T_0 57 rfl rfl, T_1 13 rfl rfl, T_7 185 rfl rfl, ⟨nh_RX12.1, nh_RX12.2, ar_X12_result⟩, by decide⟩
theorem cv_L_128 : clV RL 128 m_X12_thief 1 := ⟨T_7 186 rfl rfl, T_7 187 rfl rfl, T_7 188 rfl rfl, T_1 13 rfl rfl, T_7 189 rfl rfl, ⟨nh_RX12.1, nh_RX12.2, ar_X12_thief⟩, by decide⟩
theorem cv_X12_247 : clV RX12 247 m_X12_readSteps 0 := ⟨T_7 190 rfl rfl, T_7 192 rfl rfl, T_0 58 rfl rfl, T_1 13 rfl rfl, T_7 193 rfl rfl, ⟨nh_RX12.1, nh_RX12.2, ar_X12_readSteps⟩, by decide⟩
theorem cs_X12_238 : clS RX12 238 m_X12_stepOf 1 := ⟨T_7 194 rfl rfl, T_7 195 rfl rfl, T_1 13 rfl rfl, T_7 196 rfl rfl, ⟨nh_RX12.1, nh_RX12.2, ar_X12_stepOf⟩, by decide⟩
theorem cv_X12_208 : clV RX12 208 m_X12_sum 0 := ⟨T_7 203 rfl rfl, T_7 205 rfl rfl, T_0 59 rfl rfl, T_1 13 rfl rfl, T_7 206 rfl rfl, ⟨nh_RX12.1, nh_RX12.2, ar_X12_sum⟩, by decide⟩
theorem cv_X12_223 : clV RX12 223 m_X12_product 0 := ⟨T_7 207 rfl rfl, T_7 209 rfl rfl, T_0 60 rfl rfl, T_1 13 rfl rfl, T_7 210 rfl rfl, ⟨nh_RX12.1, nh_RX12.2, ar_X12_product⟩, by decide⟩
theorem cv_X12_220 : clV RX12 220 m_X12_unit 0 := ⟨T_7 211 rfl rfl, T_7 213 rfl rfl, T_0 61 rfl rfl, T_1 13 rfl rfl, T_7 214 rfl rfl, ⟨nh_RX12.1, nh_RX12.2, ar_X12_unit⟩, by decide⟩
theorem cv_X12_205 : clV RX12 205 m_X12_emit 2 := ⟨T_7 215 rfl rfl, T_7 217 rfl rfl, T_0 62 rfl rfl, T_1 13 rfl rfl, T_7 218 rfl rfl, ⟨nh_RX12.1, nh_RX12.2, ar_X12_emit⟩, by decide⟩
theorem cv_L_135 : clV RL 135 m_X12_told 1 := ⟨T_7 224 rfl rfl, T_7 225 rfl rfl, T_7 226 rfl rfl, T_1 13 rfl rfl, T_7 227 rfl rfl, ⟨nh_RX12.1, nh_RX12.2, ar_X12_told⟩, by decide⟩
theorem cs_X12_250 : clS RX12 250 m_X12_within 3 := ⟨T_7 228 rfl rfl, T_7 229 rfl rfl, T_1 13 rfl rfl, T_7 230 rfl rfl, ⟨nh_RX12.1, nh_RX12.2, ar_X12_within⟩, by decide⟩
theorem cv_L_139 : clV RL 139 m_X12_put 2 := ⟨T_7 231 rfl rfl, T_7 232 rfl rfl, T_7 233 rfl rfl, T_1 13 rfl rfl, T_7 234 rfl rfl, ⟨nh_RX12.1, nh_RX12.2, ar_X12_put⟩, by decide⟩
theorem cv_X12_260 : clV RX12 260 m_X12_isHouse 2 := ⟨T_7 235 rfl rfl, T_7 237 rfl rfl, T_0 63 rfl rfl, T_1 13 rfl rfl, T_7 238 rfl rfl, ⟨nh_RX12.1, nh_RX12.2, ar_X12_isHouse⟩, by decide⟩
theorem cv_X12_264 : clV RX12 264 m_X12_isNumber 1 := ⟨T_7 239 rfl rfl, T_8 1 rfl rfl, T_0 64 rfl rfl, T_1 13 rfl rfl, T_8 2 rfl rfl, ⟨nh_RX12.1, nh_RX12.2, ar_X12_isNumber⟩, by decide⟩
theorem cv_X12_257 : clV RX12 257 m_X12_all 0 := ⟨T_8 3 rfl rfl, T_8 5 rfl rfl, T_0 65 rfl rfl, T_1 13 rfl rfl, T_8 6 rfl rfl, ⟨nh_RX12.1, nh_RX12.2, ar_X12_all⟩, by decide⟩
theorem cv_X12_267 : clV RX12 267 m_X12_isThere 2 := ⟨T_8 7 rfl rfl, T_8 9 rfl rfl, T_0 66 rfl rfl, T_1 13 rfl rfl, T_8 10 rfl rfl, ⟨nh_RX12.1, nh_RX12.2, ar_X12_isThere⟩, by decide⟩
theorem cv_X12_254 : clV RX12 254 m_X12_place 2 := ⟨T_8 11 rfl rfl, T_8 13 rfl rfl, T_0 67 rfl rfl, T_1 13 rfl rfl, T_8 14 rfl rfl, ⟨nh_RX12.1, nh_RX12.2, ar_X12_place⟩, by decide⟩
theorem cv_X12_270 : clV RX12 270 m_X12_comes 2 := ⟨T_8 15 rfl rfl, T_8 17 rfl rfl, T_0 68 rfl rfl, T_1 13 rfl rfl, T_8 18 rfl rfl, ⟨nh_RX12.1, nh_RX12.2, ar_X12_comes⟩, by decide⟩
theorem cv_X12_273 : clV RX12 273 m_X12_notesDown 3 := ⟨T_8 19 rfl rfl, T_8 21 rfl rfl, T_0 69 rfl rfl, T_1 13 rfl rfl, T_8 22 rfl rfl, ⟨nh_RX12.1, nh_RX12.2, ar_X12_notesDown⟩, by decide⟩
theorem cv_L_142 : clV RL 142 m_X12_drop 2 := ⟨T_8 23 rfl rfl, T_8 24 rfl rfl, T_8 25 rfl rfl, T_1 13 rfl rfl, T_8 26 rfl rfl, ⟨nh_RX12.1, nh_RX12.2, ar_X12_drop⟩, by decide⟩
theorem cv_X12_277 : clV RX12 277 m_X12_leaves 2 := ⟨T_8 27 rfl rfl, T_8 29 rfl rfl, T_0 70 rfl rfl, T_1 13 rfl rfl, T_8 30 rfl rfl, ⟨nh_RX12.1, nh_RX12.2, ar_X12_leaves⟩, by decide⟩
theorem cv_L_145 : clV RL 145 m_X12_has 2 := ⟨T_8 31 rfl rfl, T_8 32 rfl rfl, T_8 33 rfl rfl, T_1 13 rfl rfl, T_8 34 rfl rfl, ⟨nh_RX12.1, nh_RX12.2, ar_X12_has⟩, by decide⟩
theorem cv_L_148 : clV RL 148 m_X12_of_ 2 := ⟨T_8 35 rfl rfl, T_8 36 rfl rfl, T_8 37 rfl rfl, T_1 13 rfl rfl, T_8 38 rfl rfl, ⟨nh_RX12.1, nh_RX12.2, ar_X12_of_⟩, by decide⟩
theorem cv_X12_280 : clV RX12 280 m_X12_numberAt 2 := ⟨T_8 39 rfl rfl, T_8 41 rfl rfl, T_0 71 rfl rfl, T_1 13 rfl rfl, T_8 42 rfl rfl, ⟨nh_RX12.1, nh_RX12.2, ar_X12_numberAt⟩, by decide⟩
theorem cv_L_151 : clV RL 151 m_X12_next 2 := ⟨T_8 43 rfl rfl, T_8 44 rfl rfl, T_8 45 rfl rfl, T_1 13 rfl rfl, T_8 46 rfl rfl, ⟨nh_RX12.1, nh_RX12.2, ar_X12_next⟩, by decide⟩
theorem cv_X12_283 : clV RX12 283 m_X12_mayAsk 2 := ⟨T_8 47 rfl rfl, T_8 49 rfl rfl, T_0 72 rfl rfl, T_1 13 rfl rfl, T_8 50 rfl rfl, ⟨nh_RX12.1, nh_RX12.2, ar_X12_mayAsk⟩, by decide⟩
theorem cv_X12_286 : clV RX12 286 m_X12_answer 3 := ⟨T_8 51 rfl rfl, T_8 53 rfl rfl, T_0 73 rfl rfl, T_1 13 rfl rfl, T_8 54 rfl rfl, ⟨nh_RX12.1, nh_RX12.2, ar_X12_answer⟩, by decide⟩
theorem cv_L_154 : clV RL 154 m_X12_before 2 := ⟨T_8 55 rfl rfl, T_8 56 rfl rfl, T_8 57 rfl rfl, T_1 13 rfl rfl, T_8 58 rfl rfl, ⟨nh_RX12.1, nh_RX12.2, ar_X12_before⟩, by decide⟩
theorem cv_L_157 : clV RL 157 m_X12_kth 2 := ⟨T_8 59 rfl rfl, T_8 60 rfl rfl, T_8 61 rfl rfl, T_1 13 rfl rfl, T_8 62 rfl rfl, ⟨nh_RX12.1, nh_RX12.2, ar_X12_kth⟩, by decide⟩
theorem cv_L_161 : clV RL 161 m_X12_between 3 := ⟨T_8 63 rfl rfl, T_8 64 rfl rfl, T_8 65 rfl rfl, T_1 13 rfl rfl, T_8 66 rfl rfl, ⟨nh_RX12.1, nh_RX12.2, ar_X12_between⟩, by decide⟩
theorem cv_L_165 : clV RL 165 m_X12_touches 4 := ⟨T_8 67 rfl rfl, T_8 68 rfl rfl, T_8 69 rfl rfl, T_1 13 rfl rfl, T_8 70 rfl rfl, ⟨nh_RX12.1, nh_RX12.2, ar_X12_touches⟩, by decide⟩
theorem cs_X12_344 : clS RX12 344 m_X12_isCall 1 := ⟨T_8 71 rfl rfl, T_8 72 rfl rfl, T_1 13 rfl rfl, T_8 73 rfl rfl, ⟨nh_RX12.1, nh_RX12.2, ar_X12_isCall⟩, by decide⟩
theorem cv_X12_347 : clV RX12 347 m_X12_touched 4 := ⟨T_8 74 rfl rfl, T_8 76 rfl rfl, T_0 74 rfl rfl, T_1 13 rfl rfl, T_8 77 rfl rfl, ⟨nh_RX12.1, nh_RX12.2, ar_X12_touched⟩, by decide⟩
theorem cv_X12_335 : clV RX12 335 m_X12_halves 3 := ⟨T_8 78 rfl rfl, T_8 80 rfl rfl, T_0 75 rfl rfl, T_1 13 rfl rfl, T_8 81 rfl rfl, ⟨nh_RX12.1, nh_RX12.2, ar_X12_halves⟩, by decide⟩
theorem cv_X12_329 : clV RX12 329 m_X12_lays 1 := ⟨T_8 82 rfl rfl, T_8 84 rfl rfl, T_0 76 rfl rfl, T_1 13 rfl rfl, T_8 85 rfl rfl, ⟨nh_RX12.1, nh_RX12.2, ar_X12_lays⟩, by decide⟩
theorem cv_X12_299 : clV RX12 299 m_X12_touch 5 := ⟨T_8 86 rfl rfl, T_8 88 rfl rfl, T_0 77 rfl rfl, T_1 13 rfl rfl, T_8 89 rfl rfl, ⟨nh_RX12.1, nh_RX12.2, ar_X12_touch⟩, by decide⟩
theorem cv_X12_307 : clV RX12 307 m_X12_touchPut 4 := ⟨T_8 90 rfl rfl, T_8 92 rfl rfl, T_0 78 rfl rfl, T_1 13 rfl rfl, T_8 93 rfl rfl, ⟨nh_RX12.1, nh_RX12.2, ar_X12_touchPut⟩, by decide⟩
theorem cv_X12_313 : clV RX12 313 m_X12_roomMany 4 := ⟨T_8 94 rfl rfl, T_8 96 rfl rfl, T_0 79 rfl rfl, T_1 13 rfl rfl, T_8 97 rfl rfl, ⟨nh_RX12.1, nh_RX12.2, ar_X12_roomMany⟩, by decide⟩
theorem cv_X12_293 : clV RX12 293 m_X12_lowerBits 1 := ⟨T_8 98 rfl rfl, T_8 100 rfl rfl, T_0 80 rfl rfl, T_1 13 rfl rfl, T_8 101 rfl rfl, ⟨nh_RX12.1, nh_RX12.2, ar_X12_lowerBits⟩, by decide⟩
theorem cv_X12_323 : clV RX12 323 m_X12_inList 5 := ⟨T_8 102 rfl rfl, T_8 104 rfl rfl, T_0 81 rfl rfl, T_1 13 rfl rfl, T_8 105 rfl rfl, ⟨nh_RX12.1, nh_RX12.2, ar_X12_inList⟩, by decide⟩
theorem cv_X12_296 : clV RX12 296 m_X12_lists 3 := ⟨T_8 106 rfl rfl, T_8 108 rfl rfl, T_0 82 rfl rfl, T_1 13 rfl rfl, T_8 109 rfl rfl, ⟨nh_RX12.1, nh_RX12.2, ar_X12_lists⟩, by decide⟩
theorem cv_X12_316 : clV RX12 316 m_X12_inRoom 5 := ⟨T_8 110 rfl rfl, T_8 112 rfl rfl, T_0 83 rfl rfl, T_1 13 rfl rfl, T_8 113 rfl rfl, ⟨nh_RX12.1, nh_RX12.2, ar_X12_inRoom⟩, by decide⟩
theorem cv_X12_303 : clV RX12 303 m_X12_rooms 4 := ⟨T_8 114 rfl rfl, T_8 116 rfl rfl, T_0 84 rfl rfl, T_1 13 rfl rfl, T_8 117 rfl rfl, ⟨nh_RX12.1, nh_RX12.2, ar_X12_rooms⟩, by decide⟩
theorem cv_X12_310 : clV RX12 310 m_X12_touchDrop 4 := ⟨T_8 118 rfl rfl, T_8 120 rfl rfl, T_0 85 rfl rfl, T_1 13 rfl rfl, T_8 121 rfl rfl, ⟨nh_RX12.1, nh_RX12.2, ar_X12_touchDrop⟩, by decide⟩
theorem cv_X12_326 : clV RX12 326 m_X12_isInside 3 := ⟨T_8 122 rfl rfl, T_8 124 rfl rfl, T_0 86 rfl rfl, T_1 13 rfl rfl, T_8 125 rfl rfl, ⟨nh_RX12.1, nh_RX12.2, ar_X12_isInside⟩, by decide⟩
theorem cv_X12_319 : clV RX12 319 m_X12_roomEnd 5 := ⟨T_8 126 rfl rfl, T_8 128 rfl rfl, T_0 87 rfl rfl, T_1 13 rfl rfl, T_8 129 rfl rfl, ⟨nh_RX12.1, nh_RX12.2, ar_X12_roomEnd⟩, by decide⟩
theorem cv_X12_338 : clV RX12 338 m_X12_bits 3 := ⟨T_8 130 rfl rfl, T_8 132 rfl rfl, T_0 88 rfl rfl, T_1 13 rfl rfl, T_8 133 rfl rfl, ⟨nh_RX12.1, nh_RX12.2, ar_X12_bits⟩, by decide⟩
theorem cv_X12_332 : clV RX12 332 m_X12_hasIn 3 := ⟨T_8 134 rfl rfl, T_8 136 rfl rfl, T_0 89 rfl rfl, T_1 13 rfl rfl, T_8 137 rfl rfl, ⟨nh_RX12.1, nh_RX12.2, ar_X12_hasIn⟩, by decide⟩
theorem cv_X12_341 : clV RX12 341 m_X12_sorted 3 := ⟨T_8 138 rfl rfl, T_8 140 rfl rfl, T_0 90 rfl rfl, T_1 13 rfl rfl, T_8 141 rfl rfl, ⟨nh_RX12.1, nh_RX12.2, ar_X12_sorted⟩, by decide⟩
theorem cv_L_168 : clV RL 168 m_X12_size 2 := ⟨T_8 142 rfl rfl, T_8 143 rfl rfl, T_8 144 rfl rfl, T_1 13 rfl rfl, T_8 145 rfl rfl, ⟨nh_RX12.1, nh_RX12.2, ar_X12_size⟩, by decide⟩
theorem cv_X12_350 : clV RX12 350 m_X12_cellsOf 3 := ⟨T_8 146 rfl rfl, T_8 148 rfl rfl, T_0 91 rfl rfl, T_1 13 rfl rfl, T_8 149 rfl rfl, ⟨nh_RX12.1, nh_RX12.2, ar_X12_cellsOf⟩, by decide⟩
theorem cv_L_171 : clV RL 171 m_X12_bound 1 := ⟨T_8 150 rfl rfl, T_8 151 rfl rfl, T_8 152 rfl rfl, T_1 13 rfl rfl, T_8 153 rfl rfl, ⟨nh_RX12.1, nh_RX12.2, ar_X12_bound⟩, by decide⟩
theorem cv_X12_353 : clV RX12 353 m_X12_boundOf 2 := ⟨T_8 154 rfl rfl, T_8 156 rfl rfl, T_0 92 rfl rfl, T_1 13 rfl rfl, T_8 157 rfl rfl, ⟨nh_RX12.1, nh_RX12.2, ar_X12_boundOf⟩, by decide⟩
theorem cv_L_174 : clV RL 174 m_X12_worst 3 := ⟨T_8 158 rfl rfl, T_8 159 rfl rfl, T_8 160 rfl rfl, T_1 13 rfl rfl, T_8 161 rfl rfl, ⟨nh_RX12.1, nh_RX12.2, ar_X12_worst⟩, by decide⟩
theorem cv_X12_375 : clV RX12 375 m_X12_isWorst 1 := ⟨T_8 162 rfl rfl, T_8 164 rfl rfl, T_0 93 rfl rfl, T_1 13 rfl rfl, T_8 165 rfl rfl, ⟨nh_RX12.1, nh_RX12.2, ar_X12_isWorst⟩, by decide⟩
theorem cv_X12_372 : clV RX12 372 m_X12_mostSet 0 := ⟨T_8 166 rfl rfl, T_8 168 rfl rfl, T_0 94 rfl rfl, T_1 13 rfl rfl, T_8 169 rfl rfl, ⟨nh_RX12.1, nh_RX12.2, ar_X12_mostSet⟩, by decide⟩
theorem cv_X12_378 : clV RX12 378 m_X12_findWorst 2 := ⟨T_8 170 rfl rfl, T_8 172 rfl rfl, T_0 95 rfl rfl, T_1 13 rfl rfl, T_8 173 rfl rfl, ⟨nh_RX12.1, nh_RX12.2, ar_X12_findWorst⟩, by decide⟩
theorem cv_X12_368 : clV RX12 368 m_X12_sets 4 := ⟨T_8 174 rfl rfl, T_8 176 rfl rfl, T_0 96 rfl rfl, T_1 13 rfl rfl, T_8 177 rfl rfl, ⟨nh_RX12.1, nh_RX12.2, ar_X12_sets⟩, by decide⟩
theorem cv_X12_365 : clV RX12 365 m_X12_asks 2 := ⟨T_8 178 rfl rfl, T_8 180 rfl rfl, T_0 97 rfl rfl, T_1 13 rfl rfl, T_8 181 rfl rfl, ⟨nh_RX12.1, nh_RX12.2, ar_X12_asks⟩, by decide⟩
theorem cv_L_177 : clV RL 177 m_X12_bad 3 := ⟨T_8 182 rfl rfl, T_8 183 rfl rfl, T_8 184 rfl rfl, T_1 13 rfl rfl, T_8 185 rfl rfl, ⟨nh_RX12.1, nh_RX12.2, ar_X12_bad⟩, by decide⟩
theorem cv_L_201 : clV RL 201 m_X12_reached 1 := ⟨T_8 186 rfl rfl, T_8 187 rfl rfl, T_8 188 rfl rfl, T_1 13 rfl rfl, T_8 189 rfl rfl, ⟨nh_RX12.1, nh_RX12.2, ar_X12_reached⟩, by decide⟩
theorem cv_L_204 : clV RL 204 m_X12_row 1 := ⟨T_8 190 rfl rfl, T_8 191 rfl rfl, T_8 192 rfl rfl, T_1 13 rfl rfl, T_8 193 rfl rfl, ⟨nh_RX12.1, nh_RX12.2, ar_X12_row⟩, by decide⟩
theorem cv_X12_400 : clV RX12 400 m_X12_isRow 1 := ⟨T_8 194 rfl rfl, T_8 196 rfl rfl, T_0 98 rfl rfl, T_1 13 rfl rfl, T_8 197 rfl rfl, ⟨nh_RX12.1, nh_RX12.2, ar_X12_isRow⟩, by decide⟩
theorem cv_X12_403 : clV RX12 403 m_X12_rows 1 := ⟨T_8 198 rfl rfl, T_8 200 rfl rfl, T_0 99 rfl rfl, T_1 13 rfl rfl, T_8 201 rfl rfl, ⟨nh_RX12.1, nh_RX12.2, ar_X12_rows⟩, by decide⟩
theorem cv_X12_394 : clV RX12 394 m_X12_findRow 1 := ⟨T_8 202 rfl rfl, T_8 204 rfl rfl, T_0 100 rfl rfl, T_1 13 rfl rfl, T_8 205 rfl rfl, ⟨nh_RX12.1, nh_RX12.2, ar_X12_findRow⟩, by decide⟩
theorem cs_X12_381 : clS RX12 381 m_X12_ones 1 := ⟨T_8 206 rfl rfl, T_8 207 rfl rfl, T_1 13 rfl rfl, T_8 208 rfl rfl, ⟨nh_RX12.1, nh_RX12.2, ar_X12_ones⟩, by decide⟩
theorem cv_X12_384 : clV RX12 384 m_X12_touchSet 3 := ⟨T_8 209 rfl rfl, T_8 211 rfl rfl, T_0 101 rfl rfl, T_1 13 rfl rfl, T_8 212 rfl rfl, ⟨nh_RX12.1, nh_RX12.2, ar_X12_touchSet⟩, by decide⟩
theorem cn_X12_387 : Cond.constant RX12 387 65536 ∈ TT := T_8 213 rfl rfl
theorem cv_X12_388 : clV RX12 388 m_X12_behind 3 := ⟨T_8 214 rfl rfl, T_8 216 rfl rfl, T_0 102 rfl rfl, T_1 13 rfl rfl, T_8 217 rfl rfl, ⟨nh_RX12.1, nh_RX12.2, ar_X12_behind⟩, by decide⟩
theorem cv_X12_397 : clV RX12 397 m_X12_findTwo 1 := ⟨T_8 218 rfl rfl, T_8 220 rfl rfl, T_0 103 rfl rfl, T_1 13 rfl rfl, T_8 221 rfl rfl, ⟨nh_RX12.1, nh_RX12.2, ar_X12_findTwo⟩, by decide⟩
theorem cv_L_207 : clV RL 207 m_X12_rowCall 2 := ⟨T_8 222 rfl rfl, T_8 223 rfl rfl, T_8 224 rfl rfl, T_1 13 rfl rfl, T_8 225 rfl rfl, ⟨nh_RX12.1, nh_RX12.2, ar_X12_rowCall⟩, by decide⟩
theorem cv_L_180 : clV RL 180 m_X12_was 3 := ⟨T_8 226 rfl rfl, T_8 227 rfl rfl, T_8 228 rfl rfl, T_1 13 rfl rfl, T_8 229 rfl rfl, ⟨nh_RX12.1, nh_RX12.2, ar_X12_was⟩, by decide⟩
theorem cv_X12_415 : clV RX12 415 m_X12_isTime 2 := ⟨T_8 230 rfl rfl, T_8 232 rfl rfl, T_0 104 rfl rfl, T_1 13 rfl rfl, T_8 233 rfl rfl, ⟨nh_RX12.1, nh_RX12.2, ar_X12_isTime⟩, by decide⟩
theorem cv_X12_418 : clV RX12 418 m_X12_goesTo 2 := ⟨T_8 234 rfl rfl, T_8 236 rfl rfl, T_0 105 rfl rfl, T_1 13 rfl rfl, T_8 237 rfl rfl, ⟨nh_RX12.1, nh_RX12.2, ar_X12_goesTo⟩, by decide⟩
theorem cv_X12_409 : clV RX12 409 m_X12_keeps 1 := ⟨T_8 238 rfl rfl, T_9 0 rfl rfl, T_0 106 rfl rfl, T_1 13 rfl rfl, T_9 1 rfl rfl, ⟨nh_RX12.1, nh_RX12.2, ar_X12_keeps⟩, by decide⟩
theorem cv_X12_412 : clV RX12 412 m_X12_changes 2 := ⟨T_9 2 rfl rfl, T_9 4 rfl rfl, T_0 107 rfl rfl, T_1 13 rfl rfl, T_9 5 rfl rfl, ⟨nh_RX12.1, nh_RX12.2, ar_X12_changes⟩, by decide⟩
theorem cv_X12_421 : clV RX12 421 m_X12_comesBack 1 := ⟨T_9 6 rfl rfl, T_9 8 rfl rfl, T_0 108 rfl rfl, T_1 13 rfl rfl, T_9 9 rfl rfl, ⟨nh_RX12.1, nh_RX12.2, ar_X12_comesBack⟩, by decide⟩
theorem cv_L_183 : clV RL 183 m_X12_asked 4 := ⟨T_9 10 rfl rfl, T_9 11 rfl rfl, T_9 12 rfl rfl, T_1 13 rfl rfl, T_9 13 rfl rfl, ⟨nh_RX12.1, nh_RX12.2, ar_X12_asked⟩, by decide⟩
theorem cv_L_186 : clV RL 186 m_X12_since 3 := ⟨T_9 14 rfl rfl, T_9 15 rfl rfl, T_9 16 rfl rfl, T_1 13 rfl rfl, T_9 17 rfl rfl, ⟨nh_RX12.1, nh_RX12.2, ar_X12_since⟩, by decide⟩
theorem cv_L_189 : clV RL 189 m_X12_room 2 := ⟨T_9 18 rfl rfl, T_9 19 rfl rfl, T_9 20 rfl rfl, T_1 13 rfl rfl, T_9 21 rfl rfl, ⟨nh_RX12.1, nh_RX12.2, ar_X12_room⟩, by decide⟩
theorem cv_L_192 : clV RL 192 m_X12_joins 3 := ⟨T_9 22 rfl rfl, T_9 23 rfl rfl, T_9 24 rfl rfl, T_1 13 rfl rfl, T_9 25 rfl rfl, ⟨nh_RX12.1, nh_RX12.2, ar_X12_joins⟩, by decide⟩
theorem cv_X12_424 : clV RX12 424 m_X12_calls 3 := ⟨T_9 26 rfl rfl, T_9 28 rfl rfl, T_0 109 rfl rfl, T_1 13 rfl rfl, T_9 29 rfl rfl, ⟨nh_RX12.1, nh_RX12.2, ar_X12_calls⟩, by decide⟩
theorem cv_L_210 : clV RL 210 m_X12_split 3 := ⟨T_9 30 rfl rfl, T_9 31 rfl rfl, T_9 32 rfl rfl, T_1 13 rfl rfl, T_9 33 rfl rfl, ⟨nh_RX12.1, nh_RX12.2, ar_X12_split⟩, by decide⟩
theorem cv_L_195 : clV RL 195 m_X12_runs 2 := ⟨T_9 34 rfl rfl, T_9 35 rfl rfl, T_9 36 rfl rfl, T_1 13 rfl rfl, T_9 37 rfl rfl, ⟨nh_RX12.1, nh_RX12.2, ar_X12_runs⟩, by decide⟩
theorem cv_L_213 : clV RL 213 m_X12_gap 2 := ⟨T_9 38 rfl rfl, T_9 39 rfl rfl, T_9 40 rfl rfl, T_1 13 rfl rfl, T_9 41 rfl rfl, ⟨nh_RX12.1, nh_RX12.2, ar_X12_gap⟩, by decide⟩
theorem cv_L_198 : clV RL 198 m_X12_steals 4 := ⟨T_9 42 rfl rfl, T_9 43 rfl rfl, T_9 44 rfl rfl, T_1 13 rfl rfl, T_9 45 rfl rfl, ⟨nh_RX12.1, nh_RX12.2, ar_X12_steals⟩, by decide⟩
theorem cv_X12_468 : clV RX12 468 m_X12_isThief 1 := ⟨T_9 46 rfl rfl, T_9 48 rfl rfl, T_0 110 rfl rfl, T_1 13 rfl rfl, T_9 49 rfl rfl, ⟨nh_RX12.1, nh_RX12.2, ar_X12_isThief⟩, by decide⟩
theorem cv_X12_471 : clV RX12 471 m_X12_works 3 := ⟨T_9 50 rfl rfl, T_9 52 rfl rfl, T_0 111 rfl rfl, T_1 13 rfl rfl, T_9 53 rfl rfl, ⟨nh_RX12.1, nh_RX12.2, ar_X12_works⟩, by decide⟩
theorem cv_X12_461 : clV RX12 461 m_X12_goes 4 := ⟨T_9 54 rfl rfl, T_9 56 rfl rfl, T_0 112 rfl rfl, T_1 13 rfl rfl, T_9 57 rfl rfl, ⟨nh_RX12.1, nh_RX12.2, ar_X12_goes⟩, by decide⟩
theorem cv_X12_459 : clV RX12 459 m_X12_steps 2 := ⟨T_9 58 rfl rfl, T_9 60 rfl rfl, T_0 113 rfl rfl, T_1 13 rfl rfl, T_9 61 rfl rfl, ⟨nh_RX12.1, nh_RX12.2, ar_X12_steps⟩, by decide⟩
theorem cv_X12_441 : clV RX12 441 m_X12_worked 3 := ⟨T_9 62 rfl rfl, T_9 64 rfl rfl, T_0 114 rfl rfl, T_1 13 rfl rfl, T_9 65 rfl rfl, ⟨nh_RX12.1, nh_RX12.2, ar_X12_worked⟩, by decide⟩
theorem cn_X12_436 : Cond.constant RX12 436 1103515245 ∈ TT := T_9 66 rfl rfl
theorem cn_X12_437 : Cond.constant RX12 437 65535 ∈ TT := T_9 67 rfl rfl
theorem cv_L_217 : clV RL 217 m_X12_seeds 5 := ⟨T_9 68 rfl rfl, T_9 69 rfl rfl, T_9 70 rfl rfl, T_1 13 rfl rfl, T_9 71 rfl rfl, ⟨nh_RX12.1, nh_RX12.2, ar_X12_seeds⟩, by decide⟩
theorem cv_L_221 : clV RL 221 m_X12_image 0 := ⟨T_9 72 rfl rfl, T_9 73 rfl rfl, T_9 74 rfl rfl, T_1 13 rfl rfl, T_9 75 rfl rfl, ⟨nh_RX12.1, nh_RX12.2, ar_X12_image⟩, by decide⟩
theorem cv_L_225 : clV RL 225 m_X12_restore 0 := ⟨T_9 76 rfl rfl, T_9 77 rfl rfl, T_9 78 rfl rfl, T_1 13 rfl rfl, T_9 79 rfl rfl, ⟨nh_RX12.1, nh_RX12.2, ar_X12_restore⟩, by decide⟩
theorem cv_L_229 : clV RL 229 m_X12_status 1 := ⟨T_9 80 rfl rfl, T_9 81 rfl rfl, T_9 82 rfl rfl, T_1 13 rfl rfl, T_9 83 rfl rfl, ⟨nh_RX12.1, nh_RX12.2, ar_X12_status⟩, by decide⟩
theorem cv_L_233 : clV RL 233 m_X12_count 1 := ⟨T_9 84 rfl rfl, T_9 85 rfl rfl, T_9 86 rfl rfl, T_1 13 rfl rfl, T_9 87 rfl rfl, ⟨nh_RX12.1, nh_RX12.2, ar_X12_count⟩, by decide⟩
theorem sf_J0_9 : Cond.fieldLink RJ0 9 "java/lang/String" "value" "[B" ∈ TT := T_9 107 rfl rfl
theorem sf_J0_15 : Cond.fieldLink RJ0 15 "java/lang/String" "coder" "B" ∈ TT := T_9 108 rfl rfl
