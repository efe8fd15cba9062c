/-! static facts for constructors, by gfi.py -/
theorem oi_i : Cond.instanceMethod objectInit ∈ TT := T_1 34 rfl rfl
theorem oi_c : Cond.code objectInit ⟨#[0xb1]⟩ 1 none ∈ TT := T_1 35 rfl rfl
theorem ac_0 : Cond.arrayClass .int ∈ TT := T_1 67 rfl rfl
theorem ac_2 : Cond.arrayClass .boolean ∈ TT := T_1 114 rfl rfl
theorem ac_1 : Cond.arrayClass .long ∈ TT := T_2 91 rfl rfl
theorem oi_X11_1 : Cond.methodLink RX11 1 objectInit ∈ TT := T_1 33 rfl rfl
theorem nw_X11_7 : nw RX11 7 7 := ⟨(RX7, TX7, 7), tyX7, rfl, by decide, iw_7, tyX7_ok, T_1 36 rfl rfl, T_1 37 rfl rfl, T_1 2 rfl rfl, (by decide +kernel)⟩
theorem kl_X11_7 : Cond.classLink RX11 7 RX7 ∈ TT := T_1 36 rfl rfl
theorem ic_X11_9 : clI RX11 9 m_X7_init 0 := ⟨rfl, rfl, T_1 39 rfl rfl, T_1 2 rfl rfl, T_1 40 rfl rfl, ⟨nh_RX7.1, nh_RX7.2, ar_X7_init⟩, by decide, Or.inr ⟨"HalvingHouse", N_1 38 rfl rfl⟩⟩
theorem oi_X7_3 : Cond.methodLink RX7 3 objectInit ∈ TT := T_1 41 rfl rfl
theorem pf_X7_9 : ∀ q : vw_C, vwCl[7]? = some q → Cond.fieldLink RX7 9 q.1 (q.2.1 0).2.1 (q.2.1 0).2.2.1 ∈ TT ∧ q.1 = RX7 := fun q h => by cases h; exact ⟨T_1 42 rfl rfl, rfl⟩
theorem nw_X11_16 : nw RX11 16 5 := ⟨(RX5, TX5, 3), tyX5, rfl, by decide, iw_5, tyX5_ok, T_1 68 rfl rfl, T_1 69 rfl rfl, T_1 3 rfl rfl, (by decide +kernel)⟩
theorem kl_X11_16 : Cond.classLink RX11 16 RX5 ∈ TT := T_1 68 rfl rfl
theorem ic_X11_18 : clI RX11 18 m_X5_init 0 := ⟨rfl, rfl, T_1 71 rfl rfl, T_1 3 rfl rfl, T_1 72 rfl rfl, ⟨nh_RX5.1, nh_RX5.2, ar_X5_init⟩, by decide, Or.inr ⟨"HalvingHouse", N_1 70 rfl rfl⟩⟩
theorem oi_X5_3 : Cond.methodLink RX5 3 objectInit ∈ TT := T_1 73 rfl rfl
theorem nw_X11_23 : nw RX11 23 6 := ⟨(RX6, TX6, 4), tyX6, rfl, by decide, iw_6, tyX6_ok, T_1 92 rfl rfl, T_1 93 rfl rfl, T_1 4 rfl rfl, (by decide +kernel)⟩
theorem kl_X11_23 : Cond.classLink RX11 23 RX6 ∈ TT := T_1 92 rfl rfl
theorem ic_X11_25 : clI RX11 25 m_X6_init 0 := ⟨rfl, rfl, T_1 95 rfl rfl, T_1 4 rfl rfl, T_1 96 rfl rfl, ⟨nh_RX6.1, nh_RX6.2, ar_X6_init⟩, by decide, Or.inr ⟨"HalvingHouse", N_1 94 rfl rfl⟩⟩
theorem oi_X6_3 : Cond.methodLink RX6 3 objectInit ∈ TT := T_1 97 rfl rfl
theorem pf_X6_11 : ∀ q : vw_C, vwCl[6]? = some q → Cond.fieldLink RX6 11 q.1 (q.2.1 3).2.1 (q.2.1 3).2.2.1 ∈ TT ∧ q.1 = RX6 := fun q h => by cases h; exact ⟨T_1 104 rfl rfl, rfl⟩
theorem nw_X11_30 : nw RX11 30 9 := ⟨(RX9, TX9, 7), tyX9, rfl, by decide, iw_9, tyX9_ok, T_1 115 rfl rfl, T_1 116 rfl rfl, T_1 5 rfl rfl, (by decide +kernel)⟩
theorem kl_X11_30 : Cond.classLink RX11 30 RX9 ∈ TT := T_1 115 rfl rfl
theorem ic_X11_32 : clI RX11 32 m_X9_init 0 := ⟨rfl, rfl, T_1 118 rfl rfl, T_1 5 rfl rfl, T_1 119 rfl rfl, ⟨nh_RX9.1, nh_RX9.2, ar_X9_init⟩, by decide, Or.inr ⟨"HalvingHouse", N_1 117 rfl rfl⟩⟩
theorem oi_X9_3 : Cond.methodLink RX9 3 objectInit ∈ TT := T_1 120 rfl rfl
theorem pf_X9_11 : ∀ q : vw_C, vwCl[9]? = some q → Cond.fieldLink RX9 11 q.1 (q.2.1 5).2.1 (q.2.1 5).2.2.1 ∈ TT ∧ q.1 = RX9 := fun q h => by cases h; exact ⟨T_1 126 rfl rfl, rfl⟩
theorem pf_X9_17 : ∀ q : vw_C, vwCl[9]? = some q → Cond.fieldLink RX9 17 q.1 (q.2.1 6).2.1 (q.2.1 6).2.2.1 ∈ TT ∧ q.1 = RX9 := fun q h => by cases h; exact ⟨T_1 127 rfl rfl, rfl⟩
theorem nw_X11_37 : nw RX11 37 8 := ⟨(RX8, TX8, 4), tyX8, rfl, by decide, iw_8, tyX8_ok, T_1 143 rfl rfl, T_2 129 rfl rfl, T_1 11 rfl rfl, (by decide +kernel)⟩
theorem kl_X11_37 : Cond.classLink RX11 37 RX8 ∈ TT := T_1 143 rfl rfl
theorem nw_X11_43 : nw RX11 43 2 := ⟨(RX2, TX2, 5), tyX2, rfl, by decide, iw_2, tyX2_ok, T_1 145 rfl rfl, T_2 152 rfl rfl, T_1 12 rfl rfl, (by decide +kernel)⟩
theorem kl_X11_43 : Cond.classLink RX11 43 RX2 ∈ TT := T_1 145 rfl rfl
theorem nw_X11_49 : nw RX11 49 3 := ⟨(RX3, TX3, 2), tyX3, rfl, by decide, iw_3, tyX3_ok, T_1 147 rfl rfl, T_1 148 rfl rfl, T_1 6 rfl rfl, (by decide +kernel)⟩
theorem kl_X11_49 : Cond.classLink RX11 49 RX3 ∈ TT := T_1 147 rfl rfl
theorem ic_X11_51 : clI RX11 51 m_X3_init 1 := ⟨rfl, rfl, T_1 150 rfl rfl, T_1 6 rfl rfl, T_1 151 rfl rfl, ⟨nh_RX3.1, nh_RX3.2, ar_X3_init⟩, by decide, Or.inl (T_1 149 rfl rfl)⟩
theorem oi_X3_3 : Cond.methodLink RX3 3 objectInit ∈ TT := T_1 152 rfl rfl
theorem pf_X3_9 : ∀ q : vw_C, vwCl[3]? = some q → Cond.fieldLink RX3 9 q.1 (q.2.1 0).2.1 (q.2.1 0).2.2.1 ∈ TT ∧ q.1 = RX3 := fun q h => by cases h; exact ⟨T_1 153 rfl rfl, rfl⟩
theorem nw_X11_58 : nw RX11 58 4 := ⟨(RX4, TX4, 20), tyX4, rfl, by decide, iw_4, tyX4_ok, T_1 167 rfl rfl, T_1 168 rfl rfl, T_1 7 rfl rfl, (by decide +kernel)⟩
theorem kl_X11_58 : Cond.classLink RX11 58 RX4 ∈ TT := T_1 167 rfl rfl
theorem ic_X11_60 : clI RX11 60 m_X4_init 1 := ⟨rfl, rfl, T_1 170 rfl rfl, T_1 7 rfl rfl, T_1 171 rfl rfl, ⟨nh_RX4.1, nh_RX4.2, ar_X4_init⟩, by decide, Or.inl (T_1 169 rfl rfl)⟩
theorem oi_X4_3 : Cond.methodLink RX4 3 objectInit ∈ TT := T_1 172 rfl rfl
theorem nw_X4_9 : nw RX4 9 3 := ⟨(RX3, TX3, 2), tyX3, rfl, by decide, iw_3, tyX3_ok, T_1 173 rfl rfl, T_1 148 rfl rfl, T_1 6 rfl rfl, (by decide +kernel)⟩
theorem kl_X4_9 : Cond.classLink RX4 9 RX3 ∈ TT := T_1 173 rfl rfl
theorem ic_X4_11 : clI RX4 11 m_X3_init 1 := ⟨rfl, rfl, T_1 150 rfl rfl, T_1 6 rfl rfl, T_1 151 rfl rfl, ⟨nh_RX3.1, nh_RX3.2, ar_X3_init⟩, by decide, Or.inl (T_1 174 rfl rfl)⟩
theorem nw_X4_33 : nw RX4 33 1 := ⟨(RX1, TX1, 16), tyX1, rfl, by decide, iw_1, tyX1_ok, T_1 175 rfl rfl, T_1 176 rfl rfl, T_1 8 rfl rfl, (by decide +kernel)⟩
theorem kl_X4_33 : Cond.classLink RX4 33 RX1 ∈ TT := T_1 175 rfl rfl
theorem ic_X4_35 : clI RX4 35 m_X1_init 2 := ⟨rfl, rfl, T_1 178 rfl rfl, T_1 8 rfl rfl, T_1 179 rfl rfl, ⟨nh_RX1.1, nh_RX1.2, ar_X1_init⟩, by decide, Or.inl (T_1 177 rfl rfl)⟩
theorem oi_X1_3 : Cond.methodLink RX1 3 objectInit ∈ TT := T_1 180 rfl rfl
theorem pf_X1_9 : ∀ q : vw_C, vwCl[1]? = some q → Cond.fieldLink RX1 9 q.1 (q.2.1 0).2.1 (q.2.1 0).2.2.1 ∈ TT ∧ q.1 = RX1 := fun q h => by cases h; exact ⟨T_1 181 rfl rfl, rfl⟩
theorem pf_X1_15 : ∀ q : vw_C, vwCl[1]? = some q → Cond.fieldLink RX1 15 q.1 (q.2.1 1).2.1 (q.2.1 1).2.2.1 ∈ TT ∧ q.1 = RX1 := fun q h => by cases h; exact ⟨T_1 182 rfl rfl, rfl⟩
theorem pf_X1_25 : ∀ q : vw_C, vwCl[1]? = some q → Cond.fieldLink RX1 25 q.1 (q.2.1 2).2.1 (q.2.1 2).2.2.1 ∈ TT ∧ q.1 = RX1 := fun q h => by cases h; exact ⟨T_1 183 rfl rfl, rfl⟩
theorem pf_X4_29 : ∀ q : vw_C, vwCl[4]? = some q → Cond.fieldLink RX4 29 q.1 (q.2.1 0).2.1 (q.2.1 0).2.2.1 ∈ TT ∧ q.1 = RX4 := fun q h => by cases h; exact ⟨T_1 230 rfl rfl, rfl⟩
theorem pf_X4_14 : ∀ q : vw_C, vwCl[4]? = some q → Cond.fieldLink RX4 14 q.1 (q.2.1 1).2.1 (q.2.1 1).2.2.1 ∈ TT ∧ q.1 = RX4 := fun q h => by cases h; exact ⟨T_1 231 rfl rfl, rfl⟩
theorem pf_X4_38 : ∀ q : vw_C, vwCl[4]? = some q → Cond.fieldLink RX4 38 q.1 (q.2.1 2).2.1 (q.2.1 2).2.2.1 ∈ TT ∧ q.1 = RX4 := fun q h => by cases h; exact ⟨T_1 232 rfl rfl, rfl⟩
theorem pf_X4_22 : ∀ q : vw_C, vwCl[4]? = some q → Cond.fieldLink RX4 22 q.1 (q.2.1 3).2.1 (q.2.1 3).2.2.1 ∈ TT ∧ q.1 = RX4 := fun q h => by cases h; exact ⟨T_1 233 rfl rfl, rfl⟩
theorem pf_X4_26 : ∀ q : vw_C, vwCl[4]? = some q → Cond.fieldLink RX4 26 q.1 (q.2.1 4).2.1 (q.2.1 4).2.2.1 ∈ TT ∧ q.1 = RX4 := fun q h => by cases h; exact ⟨T_1 234 rfl rfl, rfl⟩
theorem nw_X11_67 : nw RX11 67 10 := ⟨(RX10, TX10, 7), tyX10, rfl, by decide, iw_10, tyX10_ok, T_2 52 rfl rfl, T_2 53 rfl rfl, T_1 9 rfl rfl, (by decide +kernel)⟩
theorem kl_X11_67 : Cond.classLink RX11 67 RX10 ∈ TT := T_2 52 rfl rfl
theorem ic_X11_69 : clI RX11 69 m_X10_init 1 := ⟨rfl, rfl, T_2 55 rfl rfl, T_1 9 rfl rfl, T_2 56 rfl rfl, ⟨nh_RX10.1, nh_RX10.2, ar_X10_init⟩, by decide, Or.inl (T_2 54 rfl rfl)⟩
theorem oi_X10_3 : Cond.methodLink RX10 3 objectInit ∈ TT := T_2 57 rfl rfl
theorem nw_X10_9 : nw RX10 9 3 := ⟨(RX3, TX3, 2), tyX3, rfl, by decide, iw_3, tyX3_ok, T_2 58 rfl rfl, T_1 148 rfl rfl, T_1 6 rfl rfl, (by decide +kernel)⟩
theorem kl_X10_9 : Cond.classLink RX10 9 RX3 ∈ TT := T_2 58 rfl rfl
theorem ic_X10_13 : clI RX10 13 m_X3_init 1 := ⟨rfl, rfl, T_1 150 rfl rfl, T_1 6 rfl rfl, T_1 151 rfl rfl, ⟨nh_RX3.1, nh_RX3.2, ar_X3_init⟩, by decide, Or.inl (T_2 59 rfl rfl)⟩
theorem mc_X10_24 : Cond.classLink RX10 24 ("[" ++ (FieldType.array .int).toString) ∈ TT := T_2 60 rfl rfl
theorem mc_X10_32 : Cond.classLink RX10 32 ("[" ++ (FieldType.array .long).toString) ∈ TT := T_2 62 rfl rfl
theorem nw_X10_41 : nw RX10 41 1 := ⟨(RX1, TX1, 16), tyX1, rfl, by decide, iw_1, tyX1_ok, T_2 64 rfl rfl, T_1 176 rfl rfl, T_1 8 rfl rfl, (by decide +kernel)⟩
theorem kl_X10_41 : Cond.classLink RX10 41 RX1 ∈ TT := T_2 64 rfl rfl
theorem ic_X10_43 : clI RX10 43 m_X1_init 2 := ⟨rfl, rfl, T_1 178 rfl rfl, T_1 8 rfl rfl, T_1 179 rfl rfl, ⟨nh_RX1.1, nh_RX1.2, ar_X1_init⟩, by decide, Or.inl (T_2 65 rfl rfl)⟩
theorem pf_X10_37 : ∀ q : vw_C, vwCl[10]? = some q → Cond.fieldLink RX10 37 q.1 (q.2.1 0).2.1 (q.2.1 0).2.2.1 ∈ TT ∧ q.1 = RX10 := fun q h => by cases h; exact ⟨T_2 66 rfl rfl, rfl⟩
theorem pf_X10_16 : ∀ q : vw_C, vwCl[10]? = some q → Cond.fieldLink RX10 16 q.1 (q.2.1 1).2.1 (q.2.1 1).2.2.1 ∈ TT ∧ q.1 = RX10 := fun q h => by cases h; exact ⟨T_2 67 rfl rfl, rfl⟩
theorem pf_X10_46 : ∀ q : vw_C, vwCl[10]? = some q → Cond.fieldLink RX10 46 q.1 (q.2.1 2).2.1 (q.2.1 2).2.2.1 ∈ TT ∧ q.1 = RX10 := fun q h => by cases h; exact ⟨T_2 68 rfl rfl, rfl⟩
theorem pf_X10_20 : ∀ q : vw_C, vwCl[10]? = some q → Cond.fieldLink RX10 20 q.1 (q.2.1 3).2.1 (q.2.1 3).2.2.1 ∈ TT ∧ q.1 = RX10 := fun q h => by cases h; exact ⟨T_2 69 rfl rfl, rfl⟩
theorem pf_X10_26 : ∀ q : vw_C, vwCl[10]? = some q → Cond.fieldLink RX10 26 q.1 (q.2.1 4).2.1 (q.2.1 4).2.2.1 ∈ TT ∧ q.1 = RX10 := fun q h => by cases h; exact ⟨T_2 70 rfl rfl, rfl⟩
theorem pf_X10_29 : ∀ q : vw_C, vwCl[10]? = some q → Cond.fieldLink RX10 29 q.1 (q.2.1 5).2.1 (q.2.1 5).2.2.1 ∈ TT ∧ q.1 = RX10 := fun q h => by cases h; exact ⟨T_2 72 rfl rfl, rfl⟩
theorem pf_X10_34 : ∀ q : vw_C, vwCl[10]? = some q → Cond.fieldLink RX10 34 q.1 (q.2.1 6).2.1 (q.2.1 6).2.2.1 ∈ TT ∧ q.1 = RX10 := fun q h => by cases h; exact ⟨T_2 74 rfl rfl, rfl⟩
theorem nw_X11_74 : nw RX11 74 0 := ⟨(RX0, TX0, 8), tyX0, rfl, by decide, iw_0, tyX0_ok, T_2 92 rfl rfl, T_2 93 rfl rfl, T_1 10 rfl rfl, (by decide +kernel)⟩
theorem kl_X11_74 : Cond.classLink RX11 74 RX0 ∈ TT := T_2 92 rfl rfl
theorem ic_X11_76 : clI RX11 76 m_X0_init 1 := ⟨rfl, rfl, T_2 95 rfl rfl, T_1 10 rfl rfl, T_2 96 rfl rfl, ⟨nh_RX0.1, nh_RX0.2, ar_X0_init⟩, by decide, Or.inl (T_2 94 rfl rfl)⟩
theorem oi_X0_3 : Cond.methodLink RX0 3 objectInit ∈ TT := T_2 97 rfl rfl
theorem nw_X0_9 : nw RX0 9 3 := ⟨(RX3, TX3, 2), tyX3, rfl, by decide, iw_3, tyX3_ok, T_2 98 rfl rfl, T_1 148 rfl rfl, T_1 6 rfl rfl, (by decide +kernel)⟩
theorem kl_X0_9 : Cond.classLink RX0 9 RX3 ∈ TT := T_2 98 rfl rfl
theorem ic_X0_13 : clI RX0 13 m_X3_init 1 := ⟨rfl, rfl, T_1 150 rfl rfl, T_1 6 rfl rfl, T_1 151 rfl rfl, ⟨nh_RX3.1, nh_RX3.2, ar_X3_init⟩, by decide, Or.inl (T_2 99 rfl rfl)⟩
theorem mc_X0_20 : Cond.classLink RX0 20 ("[" ++ (FieldType.array .int).toString) ∈ TT := T_2 100 rfl rfl
theorem nw_X0_33 : nw RX0 33 1 := ⟨(RX1, TX1, 16), tyX1, rfl, by decide, iw_1, tyX1_ok, T_2 101 rfl rfl, T_1 176 rfl rfl, T_1 8 rfl rfl, (by decide +kernel)⟩
theorem kl_X0_33 : Cond.classLink RX0 33 RX1 ∈ TT := T_2 101 rfl rfl
theorem ic_X0_35 : clI RX0 35 m_X1_init 2 := ⟨rfl, rfl, T_1 178 rfl rfl, T_1 8 rfl rfl, T_1 179 rfl rfl, ⟨nh_RX1.1, nh_RX1.2, ar_X1_init⟩, by decide, Or.inl (T_2 102 rfl rfl)⟩
theorem pf_X0_29 : ∀ q : vw_C, vwCl[0]? = some q → Cond.fieldLink RX0 29 q.1 (q.2.1 0).2.1 (q.2.1 0).2.2.1 ∈ TT ∧ q.1 = RX0 := fun q h => by cases h; exact ⟨T_2 103 rfl rfl, rfl⟩
theorem pf_X0_16 : ∀ q : vw_C, vwCl[0]? = some q → Cond.fieldLink RX0 16 q.1 (q.2.1 1).2.1 (q.2.1 1).2.2.1 ∈ TT ∧ q.1 = RX0 := fun q h => by cases h; exact ⟨T_2 104 rfl rfl, rfl⟩
theorem pf_X0_38 : ∀ q : vw_C, vwCl[0]? = some q → Cond.fieldLink RX0 38 q.1 (q.2.1 2).2.1 (q.2.1 2).2.2.1 ∈ TT ∧ q.1 = RX0 := fun q h => by cases h; exact ⟨T_2 105 rfl rfl, rfl⟩
theorem pf_X0_22 : ∀ q : vw_C, vwCl[0]? = some q → Cond.fieldLink RX0 22 q.1 (q.2.1 3).2.1 (q.2.1 3).2.2.1 ∈ TT ∧ q.1 = RX0 := fun q h => by cases h; exact ⟨T_2 106 rfl rfl, rfl⟩
theorem pf_X0_25 : ∀ q : vw_C, vwCl[0]? = some q → Cond.fieldLink RX0 25 q.1 (q.2.1 5).2.1 (q.2.1 5).2.2.1 ∈ TT ∧ q.1 = RX0 := fun q h => by cases h; exact ⟨T_2 108 rfl rfl, rfl⟩
theorem mc_X11_81 : Cond.classLink RX11 81 ("[" ++ (FieldType.array .int).toString) ∈ TT := T_2 128 rfl rfl
theorem ic_X11_90 : clI RX11 90 m_X8_init 0 := ⟨rfl, rfl, T_2 131 rfl rfl, T_1 11 rfl rfl, T_2 132 rfl rfl, ⟨nh_RX8.1, nh_RX8.2, ar_X8_init⟩, by decide, Or.inr ⟨"HalvingHouse", N_2 130 rfl rfl⟩⟩
theorem oi_X8_3 : Cond.methodLink RX8 3 objectInit ∈ TT := T_2 133 rfl rfl
theorem pf_X8_9 : ∀ q : vw_C, vwCl[8]? = some q → Cond.fieldLink RX8 9 q.1 (q.2.1 0).2.1 (q.2.1 0).2.2.1 ∈ TT ∧ q.1 = RX8 := fun q h => by cases h; exact ⟨T_2 134 rfl rfl, rfl⟩
theorem pf_X8_15 : ∀ q : vw_C, vwCl[8]? = some q → Cond.fieldLink RX8 15 q.1 (q.2.1 1).2.1 (q.2.1 1).2.2.1 ∈ TT ∧ q.1 = RX8 := fun q h => by cases h; exact ⟨T_2 136 rfl rfl, rfl⟩
theorem ic_X11_91 : clI RX11 91 m_X2_init 1 := ⟨rfl, rfl, T_2 154 rfl rfl, T_1 12 rfl rfl, T_2 155 rfl rfl, ⟨nh_RX2.1, nh_RX2.2, ar_X2_init⟩, by decide, Or.inl (T_2 153 rfl rfl)⟩
theorem oi_X2_3 : Cond.methodLink RX2 3 objectInit ∈ TT := T_2 156 rfl rfl
theorem nw_X2_9 : nw RX2 9 3 := ⟨(RX3, TX3, 2), tyX3, rfl, by decide, iw_3, tyX3_ok, T_2 157 rfl rfl, T_1 148 rfl rfl, T_1 6 rfl rfl, (by decide +kernel)⟩
theorem kl_X2_9 : Cond.classLink RX2 9 RX3 ∈ TT := T_2 157 rfl rfl
theorem ic_X2_11 : clI RX2 11 m_X3_init 1 := ⟨rfl, rfl, T_1 150 rfl rfl, T_1 6 rfl rfl, T_1 151 rfl rfl, ⟨nh_RX3.1, nh_RX3.2, ar_X3_init⟩, by decide, Or.inl (T_2 158 rfl rfl)⟩
theorem nw_X2_27 : nw RX2 27 1 := ⟨(RX1, TX1, 16), tyX1, rfl, by decide, iw_1, tyX1_ok, T_2 159 rfl rfl, T_1 176 rfl rfl, T_1 8 rfl rfl, (by decide +kernel)⟩
theorem kl_X2_27 : Cond.classLink RX2 27 RX1 ∈ TT := T_2 159 rfl rfl
theorem ic_X2_29 : clI RX2 29 m_X1_init 2 := ⟨rfl, rfl, T_1 178 rfl rfl, T_1 8 rfl rfl, T_1 179 rfl rfl, ⟨nh_RX1.1, nh_RX1.2, ar_X1_init⟩, by decide, Or.inl (T_2 160 rfl rfl)⟩
theorem pf_X2_14 : ∀ q : vw_C, vwCl[2]? = some q → Cond.fieldLink RX2 14 q.1 (q.2.1 0).2.1 (q.2.1 0).2.2.1 ∈ TT ∧ q.1 = RX2 := fun q h => by cases h; exact ⟨T_2 161 rfl rfl, rfl⟩
theorem pf_X2_32 : ∀ q : vw_C, vwCl[2]? = some q → Cond.fieldLink RX2 32 q.1 (q.2.1 1).2.1 (q.2.1 1).2.2.1 ∈ TT ∧ q.1 = RX2 := fun q h => by cases h; exact ⟨T_2 163 rfl rfl, rfl⟩
theorem pf_X2_20 : ∀ q : vw_C, vwCl[2]? = some q → Cond.fieldLink RX2 20 q.1 (q.2.1 2).2.1 (q.2.1 2).2.2.1 ∈ TT ∧ q.1 = RX2 := fun q h => by cases h; exact ⟨T_2 165 rfl rfl, rfl⟩
theorem pf_X2_24 : ∀ q : vw_C, vwCl[2]? = some q → Cond.fieldLink RX2 24 q.1 (q.2.1 3).2.1 (q.2.1 3).2.2.1 ∈ TT ∧ q.1 = RX2 := fun q h => by cases h; exact ⟨T_2 166 rfl rfl, rfl⟩
theorem pf_X11_10 : ∀ q : vw_C, vwCl[11]? = some q → Cond.fieldLink RX11 10 q.1 (q.2.1 0).2.1 (q.2.1 0).2.2.1 ∈ TT ∧ q.1 = RX11 := fun q h => by cases h; exact ⟨T_2 180 rfl rfl, rfl⟩
theorem pf_X11_19 : ∀ q : vw_C, vwCl[11]? = some q → Cond.fieldLink RX11 19 q.1 (q.2.1 1).2.1 (q.2.1 1).2.2.1 ∈ TT ∧ q.1 = RX11 := fun q h => by cases h; exact ⟨T_2 181 rfl rfl, rfl⟩
theorem pf_X11_26 : ∀ q : vw_C, vwCl[11]? = some q → Cond.fieldLink RX11 26 q.1 (q.2.1 2).2.1 (q.2.1 2).2.2.1 ∈ TT ∧ q.1 = RX11 := fun q h => by cases h; exact ⟨T_2 182 rfl rfl, rfl⟩
theorem pf_X11_33 : ∀ q : vw_C, vwCl[11]? = some q → Cond.fieldLink RX11 33 q.1 (q.2.1 3).2.1 (q.2.1 3).2.2.1 ∈ TT ∧ q.1 = RX11 := fun q h => by cases h; exact ⟨T_2 183 rfl rfl, rfl⟩
theorem pf_X11_39 : ∀ q : vw_C, vwCl[11]? = some q → Cond.fieldLink RX11 39 q.1 (q.2.1 4).2.1 (q.2.1 4).2.2.1 ∈ TT ∧ q.1 = RX11 := fun q h => by cases h; exact ⟨T_2 184 rfl rfl, rfl⟩
theorem pf_X11_45 : ∀ q : vw_C, vwCl[11]? = some q → Cond.fieldLink RX11 45 q.1 (q.2.1 6).2.1 (q.2.1 6).2.2.1 ∈ TT ∧ q.1 = RX11 := fun q h => by cases h; exact ⟨T_2 186 rfl rfl, rfl⟩
theorem pf_X11_54 : ∀ q : vw_C, vwCl[11]? = some q → Cond.fieldLink RX11 54 q.1 (q.2.1 7).2.1 (q.2.1 7).2.2.1 ∈ TT ∧ q.1 = RX11 := fun q h => by cases h; exact ⟨T_2 187 rfl rfl, rfl⟩
theorem pf_X11_63 : ∀ q : vw_C, vwCl[11]? = some q → Cond.fieldLink RX11 63 q.1 (q.2.1 8).2.1 (q.2.1 8).2.2.1 ∈ TT ∧ q.1 = RX11 := fun q h => by cases h; exact ⟨T_2 188 rfl rfl, rfl⟩
theorem pf_X11_70 : ∀ q : vw_C, vwCl[11]? = some q → Cond.fieldLink RX11 70 q.1 (q.2.1 9).2.1 (q.2.1 9).2.2.1 ∈ TT ∧ q.1 = RX11 := fun q h => by cases h; exact ⟨T_2 189 rfl rfl, rfl⟩
theorem pf_X11_77 : ∀ q : vw_C, vwCl[11]? = some q → Cond.fieldLink RX11 77 q.1 (q.2.1 10).2.1 (q.2.1 10).2.2.1 ∈ TT ∧ q.1 = RX11 := fun q h => by cases h; exact ⟨T_2 190 rfl rfl, rfl⟩
theorem pf_X11_83 : ∀ q : vw_C, vwCl[11]? = some q → Cond.fieldLink RX11 83 q.1 (q.2.1 11).2.1 (q.2.1 11).2.2.1 ∈ TT ∧ q.1 = RX11 := fun q h => by cases h; exact ⟨T_2 191 rfl rfl, rfl⟩
theorem pf_X11_86 : ∀ q : vw_C, vwCl[11]? = some q → Cond.fieldLink RX11 86 q.1 (q.2.1 13).2.1 (q.2.1 13).2.2.1 ∈ TT ∧ q.1 = RX11 := fun q h => by cases h; exact ⟨T_2 193 rfl rfl, rfl⟩
theorem oi_X12_11 : Cond.methodLink RX12 11 objectInit ∈ TT := T_6 170 rfl rfl
theorem pf_X12_7 : ∀ q : vw_C, vwCl[12]? = some q → Cond.fieldLink RX12 7 q.1 (q.2.1 1).2.1 (q.2.1 1).2.2.1 ∈ TT ∧ q.1 = RX12 := fun q h => by cases h; exact ⟨T_6 173 rfl rfl, rfl⟩
theorem pf_X12_20 : ∀ q : vw_C, vwCl[12]? = some q → Cond.fieldLink RX12 20 q.1 (q.2.1 9).2.1 (q.2.1 9).2.2.1 ∈ TT ∧ q.1 = RX12 := fun q h => by cases h; exact ⟨T_6 181 rfl rfl, rfl⟩
theorem pf_X12_33 : ∀ q : vw_C, vwCl[12]? = some q → Cond.fieldLink RX12 33 q.1 (q.2.1 13).2.1 (q.2.1 13).2.2.1 ∈ TT ∧ q.1 = RX12 := fun q h => by cases h; exact ⟨T_6 185 rfl rfl, rfl⟩
theorem pf_X12_36 : ∀ q : vw_C, vwCl[12]? = some q → Cond.fieldLink RX12 36 q.1 (q.2.1 14).2.1 (q.2.1 14).2.2.1 ∈ TT ∧ q.1 = RX12 := fun q h => by cases h; exact ⟨T_6 186 rfl rfl, rfl⟩
theorem pf_X12_39 : ∀ q : vw_C, vwCl[12]? = some q → Cond.fieldLink RX12 39 q.1 (q.2.1 15).2.1 (q.2.1 15).2.2.1 ∈ TT ∧ q.1 = RX12 := fun q h => by cases h; exact ⟨T_6 187 rfl rfl, rfl⟩
theorem pf_X12_42 : ∀ q : vw_C, vwCl[12]? = some q → Cond.fieldLink RX12 42 q.1 (q.2.1 16).2.1 (q.2.1 16).2.2.1 ∈ TT ∧ q.1 = RX12 := fun q h => by cases h; exact ⟨T_6 188 rfl rfl, rfl⟩
theorem pf_X12_45 : ∀ q : vw_C, vwCl[12]? = some q → Cond.fieldLink RX12 45 q.1 (q.2.1 17).2.1 (q.2.1 17).2.2.1 ∈ TT ∧ q.1 = RX12 := fun q h => by cases h; exact ⟨T_6 189 rfl rfl, rfl⟩
theorem pf_X12_48 : ∀ q : vw_C, vwCl[12]? = some q → Cond.fieldLink RX12 48 q.1 (q.2.1 19).2.1 (q.2.1 19).2.2.1 ∈ TT ∧ q.1 = RX12 := fun q h => by cases h; exact ⟨T_6 191 rfl rfl, rfl⟩
theorem pf_X12_51 : ∀ q : vw_C, vwCl[12]? = some q → Cond.fieldLink RX12 51 q.1 (q.2.1 20).2.1 (q.2.1 20).2.2.1 ∈ TT ∧ q.1 = RX12 := fun q h => by cases h; exact ⟨T_6 192 rfl rfl, rfl⟩
theorem pf_X12_54 : ∀ q : vw_C, vwCl[12]? = some q → Cond.fieldLink RX12 54 q.1 (q.2.1 21).2.1 (q.2.1 21).2.2.1 ∈ TT ∧ q.1 = RX12 := fun q h => by cases h; exact ⟨T_6 193 rfl rfl, rfl⟩
theorem pf_X12_57 : ∀ q : vw_C, vwCl[12]? = some q → Cond.fieldLink RX12 57 q.1 (q.2.1 22).2.1 (q.2.1 22).2.2.1 ∈ TT ∧ q.1 = RX12 := fun q h => by cases h; exact ⟨T_6 194 rfl rfl, rfl⟩
theorem pf_X12_60 : ∀ q : vw_C, vwCl[12]? = some q → Cond.fieldLink RX12 60 q.1 (q.2.1 23).2.1 (q.2.1 23).2.2.1 ∈ TT ∧ q.1 = RX12 := fun q h => by cases h; exact ⟨T_6 195 rfl rfl, rfl⟩
theorem pf_X12_63 : ∀ q : vw_C, vwCl[12]? = some q → Cond.fieldLink RX12 63 q.1 (q.2.1 28).2.1 (q.2.1 28).2.2.1 ∈ TT ∧ q.1 = RX12 := fun q h => by cases h; exact ⟨T_6 200 rfl rfl, rfl⟩
theorem pf_X12_66 : ∀ q : vw_C, vwCl[12]? = some q → Cond.fieldLink RX12 66 q.1 (q.2.1 29).2.1 (q.2.1 29).2.2.1 ∈ TT ∧ q.1 = RX12 := fun q h => by cases h; exact ⟨T_6 201 rfl rfl, rfl⟩
theorem pf_X12_69 : ∀ q : vw_C, vwCl[12]? = some q → Cond.fieldLink RX12 69 q.1 (q.2.1 30).2.1 (q.2.1 30).2.2.1 ∈ TT ∧ q.1 = RX12 := fun q h => by cases h; exact ⟨T_6 202 rfl rfl, rfl⟩
theorem pf_X12_72 : ∀ q : vw_C, vwCl[12]? = some q → Cond.fieldLink RX12 72 q.1 (q.2.1 31).2.1 (q.2.1 31).2.2.1 ∈ TT ∧ q.1 = RX12 := fun q h => by cases h; exact ⟨T_6 203 rfl rfl, rfl⟩
theorem pf_X12_75 : ∀ q : vw_C, vwCl[12]? = some q → Cond.fieldLink RX12 75 q.1 (q.2.1 32).2.1 (q.2.1 32).2.2.1 ∈ TT ∧ q.1 = RX12 := fun q h => by cases h; exact ⟨T_6 204 rfl rfl, rfl⟩
theorem pf_X12_78 : ∀ q : vw_C, vwCl[12]? = some q → Cond.fieldLink RX12 78 q.1 (q.2.1 33).2.1 (q.2.1 33).2.2.1 ∈ TT ∧ q.1 = RX12 := fun q h => by cases h; exact ⟨T_6 205 rfl rfl, rfl⟩
theorem pf_X12_81 : ∀ q : vw_C, vwCl[12]? = some q → Cond.fieldLink RX12 81 q.1 (q.2.1 34).2.1 (q.2.1 34).2.2.1 ∈ TT ∧ q.1 = RX12 := fun q h => by cases h; exact ⟨T_6 206 rfl rfl, rfl⟩
theorem pf_X12_84 : ∀ q : vw_C, vwCl[12]? = some q → Cond.fieldLink RX12 84 q.1 (q.2.1 35).2.1 (q.2.1 35).2.2.1 ∈ TT ∧ q.1 = RX12 := fun q h => by cases h; exact ⟨T_6 207 rfl rfl, rfl⟩
theorem pf_X12_87 : ∀ q : vw_C, vwCl[12]? = some q → Cond.fieldLink RX12 87 q.1 (q.2.1 41).2.1 (q.2.1 41).2.2.1 ∈ TT ∧ q.1 = RX12 := fun q h => by cases h; exact ⟨T_6 212 rfl rfl, rfl⟩
theorem pf_X12_90 : ∀ q : vw_C, vwCl[12]? = some q → Cond.fieldLink RX12 90 q.1 (q.2.1 42).2.1 (q.2.1 42).2.2.1 ∈ TT ∧ q.1 = RX12 := fun q h => by cases h; exact ⟨T_6 213 rfl rfl, rfl⟩
theorem pf_X12_94 : ∀ q : vw_C, vwCl[12]? = some q → Cond.fieldLink RX12 94 q.1 (q.2.1 43).2.1 (q.2.1 43).2.2.1 ∈ TT ∧ q.1 = RX12 := fun q h => by cases h; exact ⟨T_6 214 rfl rfl, rfl⟩
theorem pf_X12_97 : ∀ q : vw_C, vwCl[12]? = some q → Cond.fieldLink RX12 97 q.1 (q.2.1 44).2.1 (q.2.1 44).2.2.1 ∈ TT ∧ q.1 = RX12 := fun q h => by cases h; exact ⟨T_6 215 rfl rfl, rfl⟩
theorem pf_X12_100 : ∀ q : vw_C, vwCl[12]? = some q → Cond.fieldLink RX12 100 q.1 (q.2.1 46).2.1 (q.2.1 46).2.2.1 ∈ TT ∧ q.1 = RX12 := fun q h => by cases h; exact ⟨T_6 217 rfl rfl, rfl⟩
theorem pf_X12_103 : ∀ q : vw_C, vwCl[12]? = some q → Cond.fieldLink RX12 103 q.1 (q.2.1 48).2.1 (q.2.1 48).2.2.1 ∈ TT ∧ q.1 = RX12 := fun q h => by cases h; exact ⟨T_6 219 rfl rfl, rfl⟩
theorem pf_X12_106 : ∀ q : vw_C, vwCl[12]? = some q → Cond.fieldLink RX12 106 q.1 (q.2.1 57).2.1 (q.2.1 57).2.2.1 ∈ TT ∧ q.1 = RX12 := fun q h => by cases h; exact ⟨T_6 228 rfl rfl, rfl⟩
theorem flF_0_0 : flF 0 0 (.object "HalvingHouse$Shape") := ⟨(RX0, TX0, 8), tyX0, rfl, tyX0_ok, nmX0, rfl, (by decide +kernel)⟩
theorem flF_0_1 : flF 0 1 (.object "HalvingHouse$Numbers") := ⟨(RX0, TX0, 8), tyX0, rfl, tyX0_ok, nmX0, rfl, (by decide +kernel)⟩
theorem flF_0_2 : flF 0 2 (.object "HalvingHouse$Halves") := ⟨(RX0, TX0, 8), tyX0, rfl, tyX0_ok, nmX0, rfl, (by decide +kernel)⟩
theorem flF_0_3 : flF 0 3 (.array (.array .int)) := ⟨(RX0, TX0, 8), tyX0, rfl, tyX0_ok, nmX0, rfl, (by decide +kernel)⟩
theorem flF_0_5 : flF 0 5 (.array .int) := ⟨(RX0, TX0, 8), tyX0, rfl, tyX0_ok, nmX0, rfl, (by decide +kernel)⟩
theorem flF_1_0 : flF 1 0 (.object "HalvingHouse$Shape") := ⟨(RX1, TX1, 16), tyX1, rfl, tyX1_ok, nmX1, rfl, (by decide +kernel)⟩
theorem flF_1_1 : flF 1 1 (.object "HalvingHouse$Numbers") := ⟨(RX1, TX1, 16), tyX1, rfl, tyX1_ok, nmX1, rfl, (by decide +kernel)⟩
theorem flF_1_2 : flF 1 2 (.array .int) := ⟨(RX1, TX1, 16), tyX1, rfl, tyX1_ok, nmX1, rfl, (by decide +kernel)⟩
theorem flF_2_0 : flF 2 0 (.object "HalvingHouse$Numbers") := ⟨(RX2, TX2, 5), tyX2, rfl, tyX2_ok, nmX2, rfl, (by decide +kernel)⟩
theorem flF_2_1 : flF 2 1 (.object "HalvingHouse$Halves") := ⟨(RX2, TX2, 5), tyX2, rfl, tyX2_ok, nmX2, rfl, (by decide +kernel)⟩
theorem flF_2_2 : flF 2 2 (.array .int) := ⟨(RX2, TX2, 5), tyX2, rfl, tyX2_ok, nmX2, rfl, (by decide +kernel)⟩
theorem flF_2_3 : flF 2 3 (.array .int) := ⟨(RX2, TX2, 5), tyX2, rfl, tyX2_ok, nmX2, rfl, (by decide +kernel)⟩
theorem flF_3_0 : flF 3 0 (.array .int) := ⟨(RX3, TX3, 2), tyX3, rfl, tyX3_ok, nmX3, rfl, (by decide +kernel)⟩
theorem flF_4_0 : flF 4 0 (.object "HalvingHouse$Shape") := ⟨(RX4, TX4, 20), tyX4, rfl, tyX4_ok, nmX4, rfl, (by decide +kernel)⟩
theorem flF_4_1 : flF 4 1 (.object "HalvingHouse$Numbers") := ⟨(RX4, TX4, 20), tyX4, rfl, tyX4_ok, nmX4, rfl, (by decide +kernel)⟩
theorem flF_4_2 : flF 4 2 (.object "HalvingHouse$Halves") := ⟨(RX4, TX4, 20), tyX4, rfl, tyX4_ok, nmX4, rfl, (by decide +kernel)⟩
theorem flF_4_3 : flF 4 3 (.array .int) := ⟨(RX4, TX4, 20), tyX4, rfl, tyX4_ok, nmX4, rfl, (by decide +kernel)⟩
theorem flF_4_4 : flF 4 4 (.array .int) := ⟨(RX4, TX4, 20), tyX4, rfl, tyX4_ok, nmX4, rfl, (by decide +kernel)⟩
theorem flF_6_3 : flF 6 3 (.array .boolean) := ⟨(RX6, TX6, 4), tyX6, rfl, tyX6_ok, nmX6, rfl, (by decide +kernel)⟩
theorem flF_7_0 : flF 7 0 (.array .int) := ⟨(RX7, TX7, 7), tyX7, rfl, tyX7_ok, nmX7, rfl, (by decide +kernel)⟩
theorem flF_8_0 : flF 8 0 (.array .int) := ⟨(RX8, TX8, 4), tyX8, rfl, tyX8_ok, nmX8, rfl, (by decide +kernel)⟩
theorem flF_8_1 : flF 8 1 (.array .int) := ⟨(RX8, TX8, 4), tyX8, rfl, tyX8_ok, nmX8, rfl, (by decide +kernel)⟩
theorem flF_9_5 : flF 9 5 (.array .int) := ⟨(RX9, TX9, 7), tyX9, rfl, tyX9_ok, nmX9, rfl, (by decide +kernel)⟩
theorem flF_9_6 : flF 9 6 (.array .int) := ⟨(RX9, TX9, 7), tyX9, rfl, tyX9_ok, nmX9, rfl, (by decide +kernel)⟩
theorem flF_10_0 : flF 10 0 (.object "HalvingHouse$Shape") := ⟨(RX10, TX10, 7), tyX10, rfl, tyX10_ok, nmX10, rfl, (by decide +kernel)⟩
theorem flF_10_1 : flF 10 1 (.object "HalvingHouse$Numbers") := ⟨(RX10, TX10, 7), tyX10, rfl, tyX10_ok, nmX10, rfl, (by decide +kernel)⟩
theorem flF_10_2 : flF 10 2 (.object "HalvingHouse$Halves") := ⟨(RX10, TX10, 7), tyX10, rfl, tyX10_ok, nmX10, rfl, (by decide +kernel)⟩
theorem flF_10_3 : flF 10 3 (.array .int) := ⟨(RX10, TX10, 7), tyX10, rfl, tyX10_ok, nmX10, rfl, (by decide +kernel)⟩
theorem flF_10_4 : flF 10 4 (.array (.array .int)) := ⟨(RX10, TX10, 7), tyX10, rfl, tyX10_ok, nmX10, rfl, (by decide +kernel)⟩
theorem flF_10_5 : flF 10 5 (.array (.array .int)) := ⟨(RX10, TX10, 7), tyX10, rfl, tyX10_ok, nmX10, rfl, (by decide +kernel)⟩
theorem flF_10_6 : flF 10 6 (.array (.array .long)) := ⟨(RX10, TX10, 7), tyX10, rfl, tyX10_ok, nmX10, rfl, (by decide +kernel)⟩
theorem flF_11_0 : flF 11 0 (.object "HalvingHouse$Tape") := ⟨(RX11, TX11, 14), tyX11, rfl, tyX11_ok, nmX11, rfl, (by decide +kernel)⟩
theorem flF_11_1 : flF 11 1 (.object "HalvingHouse$Shape") := ⟨(RX11, TX11, 14), tyX11, rfl, tyX11_ok, nmX11, rfl, (by decide +kernel)⟩
theorem flF_11_2 : flF 11 2 (.object "HalvingHouse$ShapeText") := ⟨(RX11, TX11, 14), tyX11, rfl, tyX11_ok, nmX11, rfl, (by decide +kernel)⟩
theorem flF_11_3 : flF 11 3 (.object "HalvingHouse$ThiefText") := ⟨(RX11, TX11, 14), tyX11, rfl, tyX11_ok, nmX11, rfl, (by decide +kernel)⟩
theorem flF_11_4 : flF 11 4 (.array (.object "HalvingHouse$Thief")) := ⟨(RX11, TX11, 14), tyX11, rfl, tyX11_ok, nmX11, rfl, (by decide +kernel)⟩
theorem flF_11_6 : flF 11 6 (.array (.object "HalvingHouse$House")) := ⟨(RX11, TX11, 14), tyX11, rfl, tyX11_ok, nmX11, rfl, (by decide +kernel)⟩
theorem flF_11_7 : flF 11 7 (.object "HalvingHouse$Numbers") := ⟨(RX11, TX11, 14), tyX11, rfl, tyX11_ok, nmX11, rfl, (by decide +kernel)⟩
theorem flF_11_8 : flF 11 8 (.object "HalvingHouse$Robbery") := ⟨(RX11, TX11, 14), tyX11, rfl, tyX11_ok, nmX11, rfl, (by decide +kernel)⟩
theorem flF_11_9 : flF 11 9 (.object "HalvingHouse$Worst") := ⟨(RX11, TX11, 14), tyX11, rfl, tyX11_ok, nmX11, rfl, (by decide +kernel)⟩
theorem flF_11_10 : flF 11 10 (.object "HalvingHouse$BestRow") := ⟨(RX11, TX11, 14), tyX11, rfl, tyX11_ok, nmX11, rfl, (by decide +kernel)⟩
theorem flF_11_11 : flF 11 11 (.array (.array .int)) := ⟨(RX11, TX11, 14), tyX11, rfl, tyX11_ok, nmX11, rfl, (by decide +kernel)⟩
theorem flF_11_13 : flF 11 13 (.array .int) := ⟨(RX11, TX11, 14), tyX11, rfl, tyX11_ok, nmX11, rfl, (by decide +kernel)⟩
theorem flF_12_1 : flF 12 1 (.array .int) := ⟨(RX12, TX12, 60), tyX12, rfl, tyX12_ok, nmX12, rfl, (by decide +kernel)⟩
theorem flF_12_9 : flF 12 9 (.array .int) := ⟨(RX12, TX12, 60), tyX12, rfl, tyX12_ok, nmX12, rfl, (by decide +kernel)⟩
theorem flF_12_13 : flF 12 13 (.array .int) := ⟨(RX12, TX12, 60), tyX12, rfl, tyX12_ok, nmX12, rfl, (by decide +kernel)⟩
theorem flF_12_14 : flF 12 14 (.array .int) := ⟨(RX12, TX12, 60), tyX12, rfl, tyX12_ok, nmX12, rfl, (by decide +kernel)⟩
theorem flF_12_15 : flF 12 15 (.array .int) := ⟨(RX12, TX12, 60), tyX12, rfl, tyX12_ok, nmX12, rfl, (by decide +kernel)⟩
theorem flF_12_16 : flF 12 16 (.array .int) := ⟨(RX12, TX12, 60), tyX12, rfl, tyX12_ok, nmX12, rfl, (by decide +kernel)⟩
theorem flF_12_17 : flF 12 17 (.array .int) := ⟨(RX12, TX12, 60), tyX12, rfl, tyX12_ok, nmX12, rfl, (by decide +kernel)⟩
theorem flF_12_19 : flF 12 19 (.array .int) := ⟨(RX12, TX12, 60), tyX12, rfl, tyX12_ok, nmX12, rfl, (by decide +kernel)⟩
theorem flF_12_20 : flF 12 20 (.array .int) := ⟨(RX12, TX12, 60), tyX12, rfl, tyX12_ok, nmX12, rfl, (by decide +kernel)⟩
theorem flF_12_21 : flF 12 21 (.array .int) := ⟨(RX12, TX12, 60), tyX12, rfl, tyX12_ok, nmX12, rfl, (by decide +kernel)⟩
theorem flF_12_22 : flF 12 22 (.array .int) := ⟨(RX12, TX12, 60), tyX12, rfl, tyX12_ok, nmX12, rfl, (by decide +kernel)⟩
theorem flF_12_23 : flF 12 23 (.array .int) := ⟨(RX12, TX12, 60), tyX12, rfl, tyX12_ok, nmX12, rfl, (by decide +kernel)⟩
theorem flF_12_28 : flF 12 28 (.array .int) := ⟨(RX12, TX12, 60), tyX12, rfl, tyX12_ok, nmX12, rfl, (by decide +kernel)⟩
theorem flF_12_29 : flF 12 29 (.array .int) := ⟨(RX12, TX12, 60), tyX12, rfl, tyX12_ok, nmX12, rfl, (by decide +kernel)⟩
theorem flF_12_30 : flF 12 30 (.array .int) := ⟨(RX12, TX12, 60), tyX12, rfl, tyX12_ok, nmX12, rfl, (by decide +kernel)⟩
theorem flF_12_31 : flF 12 31 (.array .int) := ⟨(RX12, TX12, 60), tyX12, rfl, tyX12_ok, nmX12, rfl, (by decide +kernel)⟩
theorem flF_12_32 : flF 12 32 (.array .int) := ⟨(RX12, TX12, 60), tyX12, rfl, tyX12_ok, nmX12, rfl, (by decide +kernel)⟩
theorem flF_12_33 : flF 12 33 (.array .int) := ⟨(RX12, TX12, 60), tyX12, rfl, tyX12_ok, nmX12, rfl, (by decide +kernel)⟩
theorem flF_12_34 : flF 12 34 (.array .int) := ⟨(RX12, TX12, 60), tyX12, rfl, tyX12_ok, nmX12, rfl, (by decide +kernel)⟩
theorem flF_12_35 : flF 12 35 (.array .int) := ⟨(RX12, TX12, 60), tyX12, rfl, tyX12_ok, nmX12, rfl, (by decide +kernel)⟩
theorem flF_12_41 : flF 12 41 (.array .int) := ⟨(RX12, TX12, 60), tyX12, rfl, tyX12_ok, nmX12, rfl, (by decide +kernel)⟩
theorem flF_12_42 : flF 12 42 (.array .int) := ⟨(RX12, TX12, 60), tyX12, rfl, tyX12_ok, nmX12, rfl, (by decide +kernel)⟩
theorem flF_12_43 : flF 12 43 (.array .int) := ⟨(RX12, TX12, 60), tyX12, rfl, tyX12_ok, nmX12, rfl, (by decide +kernel)⟩
theorem flF_12_44 : flF 12 44 (.array .int) := ⟨(RX12, TX12, 60), tyX12, rfl, tyX12_ok, nmX12, rfl, (by decide +kernel)⟩
theorem flF_12_46 : flF 12 46 (.array .int) := ⟨(RX12, TX12, 60), tyX12, rfl, tyX12_ok, nmX12, rfl, (by decide +kernel)⟩
theorem flF_12_48 : flF 12 48 (.array .int) := ⟨(RX12, TX12, 60), tyX12, rfl, tyX12_ok, nmX12, rfl, (by decide +kernel)⟩
theorem flF_12_57 : flF 12 57 (.array .int) := ⟨(RX12, TX12, 60), tyX12, rfl, tyX12_ok, nmX12, rfl, (by decide +kernel)⟩
