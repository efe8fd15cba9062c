/-! 79.yd.thief (by gen_safe.py) -/
set_option maxHeartbeats 4000000 in
theorem k_X12_thief {ad : List Nat} {h : hp} (L : Lay TLx ad h) {δ0 : dp} {N : Nat} (hN : 10000000 ≤ N) {a0 : Nat} {x1 : Int32} (k_a0 : q_K h.1 a0 = 12) {δ : dp} (I : RI ad h.1 δ0 δ) : ok (D_X12_thief N h.1 a0 x1 δ) (fun r => RI ad h.1 δ0 r.2 ∧ (kp [(12, 0), (12, 2), (12, 3), (12, 4), (12, 5), (12, 6), (12, 7), (12, 8), (12, 24), (12, 25), (12, 26), (12, 27)] δ r.2 ∧ q_V r.2 = q_V δ ∧ kr ad [100, 112, 113, 114, 115, 116, 117] δ r.2) ∧ TK ad a0 δ r.2 ∧ (0 ≤ (x1).toInt ∧ (x1).toInt ≤ (q_I δ 12 2 a0).toInt → (q_I r.2 12 2 a0).toInt = 0) ∧ ((x1).toInt < 0 ∨ (q_I δ 12 2 a0).toInt < (x1).toInt → (q_I r.2 12 2 a0).toInt = (q_I δ 12 2 a0).toInt)) := by
  unfold D_X12_thief
  refine ok_bdv (fun d1 e2 => ?_)
  have i3 : RI ad h.1 δ0 d1 := by rw [e2]; exact cs_12_0 L I
  have u4 := kp_I kp_r e2
  have v5 : q_V d1 = q_V δ := ((show q_V d1 = q_V δ by rw [e2]; rfl)).trans rfl
  have v6 := kr_N (kr_r (ad := ad)) (show q_R d1 = q_R δ by rw [e2]; rfl)
  have f7 := ti_b x1
  refine ok_ite (fun h8 => ?_) (fun h8 => ?_)
  · have c9 : x1.toInt < (0 : Int) := o_lt h8
    unfold J_X12_thief_22
    unfold J_X12_thief_23
    refine ok_bind (k_X12_may L hN (a0 := a0) (x1 := (0 : Int32)) (x2 := (1 : Int32)) (x3 := (2 : Int32)) k_a0 (show (1 : Int) ≠ 0 by first | assumption | omega) (show 0 ≤ (2 : Int) by first | assumption | omega) (show (2 : Int) ≤ 2 by first | assumption | omega) i3) (fun r10 hr11 => ?_)
    obtain ⟨i12, ⟨u16, u17, u18⟩, p13, p14, p15⟩ := hr11
    have u19 := kp_t u4 u16
    have v20 : q_V r10.2 = q_V δ := (u17).trans v5
    have v21 := kr_t v6 u18
    have f22 := bo_l p13
    have f23 := ti_b r10.1
    replace p14 : ((r10.1).toInt = 1 → (0 : Int) ≠ 0) := p14
    have f24 := ti_b (q_I d1 12 0 a0)
    have f25 : (q_I d1 12 0 a0).toInt = (0 : Int) := congrArg Int32.toInt (show q_I d1 12 0 a0 = (0 : Int32) by rw [e2]; exact rI_s)
    replace p15 : ((q_I d1 12 0 a0).toInt = 0 → (r10.1).toInt = 0 → (0 : Int) = 0) := p15
    have f26 := ti_b r10.1
    have f28 := cb_12_5 i12 k_a0
    have f29 : (q_I r10.2 12 5 a0).toInt = (q_I d1 12 5 a0).toInt := congrArg Int32.toInt (u16 12 5 a0 (by decide))
    have f30 := cb_12_5 i3 k_a0
    have f31 : (q_I d1 12 5 a0).toInt = (q_I δ 12 5 a0).toInt := congrArg Int32.toInt (by rw [e2]; exact rI_o (by decide))
    have f32 := cb_12_5 I k_a0
    have ns27 : NS ad a0 d1 r10.2 := ⟨u18 112 (by decide) (by decide) (by decide), u18 113 (by decide) (by decide) (by decide), u18 114 (by decide) (by decide) (by decide), u18 115 (by decide) (by decide) (by decide), u18 116 (by decide) (by decide) (by decide), u16 12 24 _ (by decide), u16 12 25 _ (by decide), u16 12 26 _ (by decide), u16 12 27 _ (by decide), fun z => by omega⟩
    refine ok_ite (fun h33 => ?_) (fun h33 => ?_)
    · have c34 : r10.1.toInt = (0 : Int) := o_eq h33
      have ss35 : NS ad a0 δ d1 := NS.t NS.r (NS.w e2 (by decide))
      have ss36 : NS0 ad a0 δ r10.2 := NS0.t (NS.z ss35) (NS.z ns27)
      have f37 := cb_12_2 I k_a0
      have f38 := cb_12_2 i12 k_a0
      have f39 : (q_I r10.2 12 2 a0).toInt = (q_I d1 12 2 a0).toInt := congrArg Int32.toInt (u16 12 2 a0 (by decide))
      have f40 := cb_12_2 i3 k_a0
      have f41 : (q_I d1 12 2 a0).toInt = (q_I δ 12 2 a0).toInt := congrArg Int32.toInt (by rw [e2]; exact rI_o (by decide))
      exact ok_some (show RI ad h.1 δ0 r10.2 ∧ (kp [(12, 0), (12, 2), (12, 3), (12, 4), (12, 5), (12, 6), (12, 7), (12, 8), (12, 24), (12, 25), (12, 26), (12, 27)] δ r10.2 ∧ q_V r10.2 = q_V δ ∧ kr ad [100, 112, 113, 114, 115, 116, 117] δ r10.2) ∧ TK ad a0 δ r10.2 ∧ (0 ≤ (x1).toInt ∧ (x1).toInt ≤ (q_I δ 12 2 a0).toInt → (q_I r10.2 12 2 a0).toInt = 0) ∧ ((x1).toInt < 0 ∨ (q_I δ 12 2 a0).toInt < (x1).toInt → (q_I r10.2 12 2 a0).toInt = (q_I δ 12 2 a0).toInt) from ⟨i12, ⟨kp_w (by decide) u19, v20, kr_w (by decide) v21⟩, TK.n ss36, by first | assumption | omega, by first | assumption | omega⟩)
    · have c42 : r10.1.toInt ≠ (0 : Int) := o_ne h33
      refine ok_bind (k_X12_begins L hN (a0 := a0) (x1 := x1) k_a0 (show 0 ≤ (x1).toInt by first | assumption | omega) (show (x1).toInt ≤ 500 by first | assumption | omega) i12) (fun r43 hr44 => ?_)
      obtain ⟨i45, ⟨u51, u52, u53, u54⟩, p46, p47, p48, p49, p50⟩ := hr44
      have u55 := kp_t u19 u51
      have v56 : q_V r43 = q_V δ := (u52).trans v20
      have v57 := kr_t v21 u54
      have f58 := cb_12_2 i45 k_a0
      have f59 := cb_12_4 i45 k_a0
      have f60 := cb_12_3 i45 k_a0
      have f61 := cb_12_5 i45 k_a0
      have f62 := ti_b (q_I r43 12 7 a0)
      have ns63 : NS0 ad a0 r10.2 r43 := ⟨u54 112 (by decide) (by decide) (by decide), u54 113 (by decide) (by decide) (by decide), u54 114 (by decide) (by decide) (by decide), u54 115 (by decide) (by decide) (by decide), u54 116 (by decide) (by decide) (by decide), u51 12 24 _ (by decide)⟩
      have f64 := cb_12_24 i45 k_a0
      have f65 : (q_I r43 12 24 a0).toInt = (q_I r10.2 12 24 a0).toInt := congrArg Int32.toInt (u51 12 24 a0 (by decide))
      have f66 := cb_12_24 i12 k_a0
      have f67 : (q_I r10.2 12 24 a0).toInt = (q_I d1 12 24 a0).toInt := congrArg Int32.toInt (u16 12 24 a0 (by decide))
      have f68 := cb_12_24 i3 k_a0
      have f69 : (q_I d1 12 24 a0).toInt = (q_I δ 12 24 a0).toInt := congrArg Int32.toInt (by rw [e2]; exact rI_o (by decide))
      have f70 := cb_12_24 I k_a0
      refine ok_ite (fun h71 => ?_) (fun h71 => ?_)
      · have c72 : (q_I r43 12 24 a0).toInt = (4 : Int) := o_eq h71
        have ss73 : NS ad a0 δ d1 := NS.t NS.r (NS.w e2 (by decide))
        have ss74 : NS0 ad a0 δ r10.2 := NS0.t (NS.z ss73) (NS.z ns27)
        have ss75 : NS0 ad a0 δ r43 := NS0.t ss74 ns63
        have f76 := cb_12_2 I k_a0
        exact ok_some (show RI ad h.1 δ0 r43 ∧ (kp [(12, 0), (12, 2), (12, 3), (12, 4), (12, 5), (12, 6), (12, 7), (12, 8), (12, 24), (12, 25), (12, 26), (12, 27)] δ r43 ∧ q_V r43 = q_V δ ∧ kr ad [100, 112, 113, 114, 115, 116, 117] δ r43) ∧ TK ad a0 δ r43 ∧ (0 ≤ (x1).toInt ∧ (x1).toInt ≤ (q_I δ 12 2 a0).toInt → (q_I r43 12 2 a0).toInt = 0) ∧ ((x1).toInt < 0 ∨ (q_I δ 12 2 a0).toInt < (x1).toInt → (q_I r43 12 2 a0).toInt = (q_I δ 12 2 a0).toInt) from ⟨i45, ⟨kp_w (by decide) u55, v56, kr_w (by decide) v57⟩, TK.n ss75, by first | assumption | omega, by first | assumption | omega⟩)
      · have c77 : (q_I r43 12 24 a0).toInt ≠ (4 : Int) := o_ne h71
        refine ok_bdv (fun d78 e79 => ?_)
        have i80 : RI ad h.1 δ0 d78 := by rw [e79]; exact cs_12_25 L i45 k_a0 (show 0 ≤ (0 : Int) by omega) (show (0 : Int) ≤ 60 by omega)
        have u81 := kp_I u55 e79
        have v82 : q_V d78 = q_V δ := ((show q_V d78 = q_V r43 by rw [e79]; rfl)).trans v56
        have v83 := kr_N v57 (show q_R d78 = q_R r43 by rw [e79]; rfl)
        refine ok_bdv (fun d84 e85 => ?_)
        have i86 : RI ad h.1 δ0 d84 := by rw [e85]; exact cs_12_26 L i80 k_a0 (show 0 ≤ (0 : Int) by omega) (show (0 : Int) ≤ 500 by omega)
        have u87 := kp_I u81 e85
        have v88 : q_V d84 = q_V δ := ((show q_V d84 = q_V d78 by rw [e85]; rfl)).trans v82
        have v89 := kr_N v83 (show q_R d84 = q_R d78 by rw [e85]; rfl)
        refine ok_bdv (fun d90 e91 => ?_)
        have i92 : RI ad h.1 δ0 d90 := by rw [e91]; exact cs_12_27 L i86 k_a0 (show 0 ≤ (0 : Int) by omega) (show (0 : Int) ≤ 3 by omega)
        have u93 := kp_I u87 e91
        have v94 : q_V d90 = q_V δ := ((show q_V d90 = q_V d84 by rw [e91]; rfl)).trans v88
        have v95 := kr_N v89 (show q_R d90 = q_R d84 by rw [e91]; rfl)
        refine ok_bind (k_X12_isMore L hN (a0 := a0) k_a0 i92) (fun r96 hr97 => ?_)
        obtain ⟨i98, ⟨u102, u103, u104, u105⟩, p99, p100, p101⟩ := hr97
        have u106 := kp_t u93 u102
        have v107 : q_V r96.2 = q_V δ := (u103).trans v94
        have v108 := kr_t v95 u105
        have f109 := bo_l p99
        have f110 := cb_12_4 i92 k_a0
        have f111 : (q_I d90 12 4 a0).toInt = (q_I d84 12 4 a0).toInt := congrArg Int32.toInt (by rw [e91]; exact rI_o (by decide))
        have f112 := cb_12_4 i86 k_a0
        have f113 : (q_I d84 12 4 a0).toInt = (q_I d78 12 4 a0).toInt := congrArg Int32.toInt (by rw [e85]; exact rI_o (by decide))
        have f114 := cb_12_4 i80 k_a0
        have f115 : (q_I d78 12 4 a0).toInt = (q_I r43 12 4 a0).toInt := congrArg Int32.toInt (by rw [e79]; exact rI_o (by decide))
        have f116 := cb_12_4 i98 k_a0
        have f117 := ti_b r96.1
        have f118 := cb_12_3 i92 k_a0
        have f119 : (q_I d90 12 3 a0).toInt = (q_I d84 12 3 a0).toInt := congrArg Int32.toInt (by rw [e91]; exact rI_o (by decide))
        have f120 := cb_12_3 i86 k_a0
        have f121 : (q_I d84 12 3 a0).toInt = (q_I d78 12 3 a0).toInt := congrArg Int32.toInt (by rw [e85]; exact rI_o (by decide))
        have f122 := cb_12_3 i80 k_a0
        have f123 : (q_I d78 12 3 a0).toInt = (q_I r43 12 3 a0).toInt := congrArg Int32.toInt (by rw [e79]; exact rI_o (by decide))
        have f124 := ti_b r96.1
        have f126 := cb_12_5 i98 k_a0
        have f127 : (q_I r96.2 12 5 a0).toInt = (q_I d90 12 5 a0).toInt := congrArg Int32.toInt (u102 12 5 a0 (by decide))
        have f128 := cb_12_5 i92 k_a0
        have f129 : (q_I d90 12 5 a0).toInt = (q_I d84 12 5 a0).toInt := congrArg Int32.toInt (by rw [e91]; exact rI_o (by decide))
        have f130 := cb_12_5 i86 k_a0
        have f131 : (q_I d84 12 5 a0).toInt = (q_I d78 12 5 a0).toInt := congrArg Int32.toInt (by rw [e85]; exact rI_o (by decide))
        have f132 := cb_12_5 i80 k_a0
        have f133 : (q_I d78 12 5 a0).toInt = (q_I r43 12 5 a0).toInt := congrArg Int32.toInt (by rw [e79]; exact rI_o (by decide))
        have ns125 : NS ad a0 d90 r96.2 := ⟨u105 112 (by decide) (by decide) (by decide), u105 113 (by decide) (by decide) (by decide), u105 114 (by decide) (by decide) (by decide), u105 115 (by decide) (by decide) (by decide), u105 116 (by decide) (by decide) (by decide), u102 12 24 _ (by decide), u102 12 25 _ (by decide), u102 12 26 _ (by decide), u102 12 27 _ (by decide), fun z => by omega⟩
        refine ok_ite (fun h134 => ?_) (fun h134 => ?_)
        · have c135 : r96.1.toInt = (0 : Int) := o_eq h134
          have f138 := cb_12_3 i98 k_a0
          have f139 : (q_I r96.2 12 3 a0).toInt = (q_I d90 12 3 a0).toInt := congrArg Int32.toInt (u102 12 3 a0 (by decide))
          refine ok_bind (k_X12_wrong L hN (a0 := a0) (x1 := (1 : Int32)) (x2 := (q_I r96.2 12 3 a0)) k_a0 (show 0 ≤ ((q_I r96.2 12 3 a0)).toInt by first | assumption | omega) (show ((q_I r96.2 12 3 a0)).toInt ≤ 500 by first | assumption | omega) (show 0 ≤ (1 : Int) by first | assumption | omega) (show (1 : Int) ≤ 4 by first | assumption | omega) i98) (fun r136 hr137 => ?_)
          obtain ⟨i140, ⟨u143, u144, u145, u146⟩, p141, p142⟩ := hr137
          have u147 := kp_t u106 u143
          have v148 : q_V r136 = q_V δ := (u144).trans v107
          have v149 := kr_t v108 u146
          have f150 := cb_12_5 i140 k_a0
          have ns151 : NS ad a0 r96.2 r136 := ⟨u146 112 (by decide) (by decide) (by decide), u146 113 (by decide) (by decide) (by decide), u146 114 (by decide) (by decide) (by decide), u146 115 (by decide) (by decide) (by decide), u146 116 (by decide) (by decide) (by decide), u143 12 24 _ (by decide), u143 12 25 _ (by decide), u143 12 26 _ (by decide), u143 12 27 _ (by decide), fun z => by omega⟩
          unfold J_X12_thief_79
          have f154 := cb_12_24 i140 k_a0
          have f155 : (q_I r136 12 24 a0).toInt = (q_I r96.2 12 24 a0).toInt := congrArg Int32.toInt (u143 12 24 a0 (by decide))
          have f156 := cb_12_24 i98 k_a0
          have f157 : (q_I r96.2 12 24 a0).toInt = (q_I d90 12 24 a0).toInt := congrArg Int32.toInt (u102 12 24 a0 (by decide))
          have f158 := cb_12_24 i92 k_a0
          have f159 : (q_I d90 12 24 a0).toInt = (q_I d84 12 24 a0).toInt := congrArg Int32.toInt (by rw [e91]; exact rI_o (by decide))
          have f160 := cb_12_24 i86 k_a0
          have f161 : (q_I d84 12 24 a0).toInt = (q_I d78 12 24 a0).toInt := congrArg Int32.toInt (by rw [e85]; exact rI_o (by decide))
          have f162 := cb_12_24 i80 k_a0
          have f163 : (q_I d78 12 24 a0).toInt = (q_I r43 12 24 a0).toInt := congrArg Int32.toInt (by rw [e79]; exact rI_o (by decide))
          have f164 := cb_12_26 i140 k_a0
          have f165 : (q_I r136 12 26 a0).toInt = (q_I r96.2 12 26 a0).toInt := congrArg Int32.toInt (u143 12 26 a0 (by decide))
          have f166 := cb_12_26 i98 k_a0
          have f167 : (q_I r96.2 12 26 a0).toInt = (q_I d90 12 26 a0).toInt := congrArg Int32.toInt (u102 12 26 a0 (by decide))
          have f168 := cb_12_26 i92 k_a0
          have f169 : (q_I d90 12 26 a0).toInt = (q_I d84 12 26 a0).toInt := congrArg Int32.toInt (by rw [e91]; exact rI_o (by decide))
          have f170 := cb_12_26 i86 k_a0
          have f171 : (q_I d84 12 26 a0).toInt = (0 : Int) := congrArg Int32.toInt (show q_I d84 12 26 a0 = (0 : Int32) by rw [e85]; exact rI_s)
          have f172 := cb_12_4 i140 k_a0
          have f173 : (q_I r136 12 4 a0).toInt = (q_I r96.2 12 4 a0).toInt := congrArg Int32.toInt (u143 12 4 a0 (by decide))
          have f174 := ti_b (q_I r136 12 7 a0)
          have f175 : (q_I r136 12 7 a0).toInt = (q_I r96.2 12 7 a0).toInt := congrArg Int32.toInt (u143 12 7 a0 (by decide))
          have f176 := ti_b (q_I r96.2 12 7 a0)
          have f177 : (q_I r96.2 12 7 a0).toInt = (q_I d90 12 7 a0).toInt := congrArg Int32.toInt (u102 12 7 a0 (by decide))
          have f178 := ti_b (q_I d90 12 7 a0)
          have f179 : (q_I d90 12 7 a0).toInt = (q_I d84 12 7 a0).toInt := congrArg Int32.toInt (by rw [e91]; exact rI_o (by decide))
          have f180 := ti_b (q_I d84 12 7 a0)
          have f181 : (q_I d84 12 7 a0).toInt = (q_I d78 12 7 a0).toInt := congrArg Int32.toInt (by rw [e85]; exact rI_o (by decide))
          have f182 := ti_b (q_I d78 12 7 a0)
          have f183 : (q_I d78 12 7 a0).toInt = (q_I r43 12 7 a0).toInt := congrArg Int32.toInt (by rw [e79]; exact rI_o (by decide))
          have f184 := cb_12_27 i140 k_a0
          have f185 : (q_I r136 12 27 a0).toInt = (q_I r96.2 12 27 a0).toInt := congrArg Int32.toInt (u143 12 27 a0 (by decide))
          have f186 := cb_12_27 i98 k_a0
          have f187 : (q_I r96.2 12 27 a0).toInt = (q_I d90 12 27 a0).toInt := congrArg Int32.toInt (u102 12 27 a0 (by decide))
          have f188 := cb_12_27 i92 k_a0
          have f189 : (q_I d90 12 27 a0).toInt = (0 : Int) := congrArg Int32.toInt (show q_I d90 12 27 a0 = (0 : Int32) by rw [e91]; exact rI_s)
          refine ok_bind (k_X12_readSteps L hN (a0 := a0) k_a0 (show (q_I r136 12 24 a0).toInt ≤ 3 by first | assumption | omega) (show (q_I r136 12 26 a0).toInt ≤ (q_I r136 12 4 a0).toInt by first | assumption | omega) (show (q_I r136 12 7 a0).toInt = 0 by first | assumption | omega) (show 4 - (q_I r136 12 27 a0).toInt < 20 by first | assumption | omega) i140) (fun r152 hr153 => ?_)
          obtain ⟨i190, ⟨u197, u198, u199⟩, p191, p192, p193, p194, p195, p196⟩ := hr153
          have u200 := kp_t u147 u197
          have v201 : q_V r152 = q_V δ := (u198).trans v148
          have v202 := kr_t v149 u199
          have f203 := cb_12_4 i190 k_a0
          have f204 := cb_12_5 i190 k_a0
          have f205 := ti_b (q_I r152 12 7 a0)
          have f206 := cb_12_27 i190 k_a0
          have f207 := cb_12_26 i190 k_a0
          refine ok_bind (k_X12_fine L hN (a0 := a0) k_a0 i190) (fun r208 hr209 => ?_)
          obtain ⟨i210, p211, p212, p213⟩ := hr209
          try rw [i210]
          have f214 := bo_l p211
          have f215 := ti_b r208.1
          have f216 := ti_b r208.1
          refine ok_ite (fun h217 => ?_) (fun h217 => ?_)
          · have c218 : r208.1.toInt = (0 : Int) := o_eq h217
            unfold J_X12_thief_106
            refine ok_bind (k_X12_result L hN (a0 := a0) (x1 := (q_I r152 12 24 a0)) k_a0 i190) (fun r219 hr220 => ?_)
            obtain ⟨i221, ⟨u223, u224, u225, u226⟩, p222⟩ := hr220
            have u227 := kp_t u200 u223
            have v228 : q_V r219.2 = q_V δ := (u224).trans v201
            have v229 := kr_t v202 u226
            have f230 := ti_b r219.1
            have f231 := ti_b r219.1
            have f233 := cb_12_5 i221 k_a0
            have f234 : (q_I r219.2 12 5 a0).toInt = (q_I r152 12 5 a0).toInt := congrArg Int32.toInt (u223 12 5 a0 (by decide))
            have ns232 : NS ad a0 r152 r219.2 := ⟨u226 112 (by decide) (by decide) (by decide), u226 113 (by decide) (by decide) (by decide), u226 114 (by decide) (by decide) (by decide), u226 115 (by decide) (by decide) (by decide), u226 116 (by decide) (by decide) (by decide), u223 12 24 _ (by decide), u223 12 25 _ (by decide), u223 12 26 _ (by decide), u223 12 27 _ (by decide), fun z => by omega⟩
            have f235 := cb_12_24 i221 k_a0
            have f236 : (q_I r219.2 12 24 a0).toInt = (q_I r152 12 24 a0).toInt := congrArg Int32.toInt (u223 12 24 a0 (by decide))
            have f237 := cb_12_24 i190 k_a0
            have f238 : (q_I r152 12 24 a0).toInt = (q_I r136 12 24 a0).toInt := congrArg Int32.toInt (u197 12 24 a0 (by decide))
            refine ok_ite (fun h239 => ?_) (fun h239 => ?_)
            · have c240 : r219.1.toInt = (q_I r219.2 12 24 a0).toInt := o_eq h239
              obtain ⟨b241, o242, k243, n244⟩ := gO_12_28 L k_a0
              obtain rfl := gS_12_28 L k_a0 o242
              refine ok_at o242 ?_
              have t245 := ti_tn (q_I r219.2 12 24 a0)
              refine ok_gd (fun hc246 => ?_) ?_
              · rcases hc246 with hc246 | hc246
                · have c247 : (q_I r219.2 12 24 a0).toInt < (0 : Int) := o_lt hc246
                  omega
                · omega
              have f251 := cb_12_25 i221 k_a0
              have f252 : (q_I r219.2 12 25 a0).toInt = (q_I r152 12 25 a0).toInt := congrArg Int32.toInt (u223 12 25 a0 (by decide))
              have f253 := cb_12_25 i190 k_a0
              refine ok_bdv (fun d248 e249 => ?_)
              have i250 : RI ad h.1 δ0 d248 := by rw [e249]; exact cr_112 L i221 (show 0 ≤ (q_I r219.2 12 25 a0).toInt by omega) (show (q_I r219.2 12 25 a0).toInt ≤ 60 by omega)
              have u254 := kp_N u227 (show q_I d248 = q_I r219.2 by rw [e249]; rfl)
              have v255 : q_V d248 = q_V δ := ((show q_V d248 = q_V r219.2 by rw [e249]; rfl)).trans v228
              have v256 := kr_s L (by decide) v229 e249
              have f260 := cb_12_24 i250 k_a0
              have f261 : (q_I d248 12 24 a0).toInt = (q_I r219.2 12 24 a0).toInt := congrArg Int32.toInt (by rw [e249]; rfl)
              first | (have q263 := te_addc (c := 1) (n := 1) rfl (q_I d248 12 24 a0) (by omega) (by omega); obtain ⟨f264, f265, f266⟩ := q263) | (obtain ⟨q263, f264, f265, f266⟩ := ti_addc (c := 1) (n := 1) rfl (q_I d248 12 24 a0))
              refine ok_bdv (fun d257 e258 => ?_)
              have i259 : RI ad h.1 δ0 d257 := by rw [e258]; exact cs_12_24 L i250 k_a0 (show 0 ≤ ((q_I d248 12 24 a0) + (1 : Int32)).toInt by omega) (show ((q_I d248 12 24 a0) + (1 : Int32)).toInt ≤ 4 by omega)
              have u267 := kp_I u254 e258
              have v268 : q_V d257 = q_V δ := ((show q_V d257 = q_V d248 by rw [e258]; rfl)).trans v255
              have v269 := kr_N v256 (show q_R d257 = q_R d248 by rw [e258]; rfl)
              unfold J_X12_thief_146
              have ss270 : NS ad a0 δ d1 := NS.t NS.r (NS.w e2 (by decide))
              have ss271 : NS0 ad a0 δ r10.2 := NS0.t (NS.z ss270) (NS.z ns27)
              have ss272 : NS0 ad a0 δ r43 := NS0.t ss271 ns63
              have ns274 : NS ad a0 d90 r96.2 := NS.t NS.r ns125
              have ns275 : NS ad a0 d90 r136 := NS.t ns274 ns151
              have ns276 : NS ad a0 r152 r219.2 := NS.t NS.r ns232
              have f277 := cb_12_26 i221 k_a0
              have f278 : (q_I r219.2 12 26 a0).toInt = (q_I r152 12 26 a0).toInt := congrArg Int32.toInt (u223 12 26 a0 (by decide))
              have ss273 : TK ad a0 δ d257 := TK.good L ss272 e79 e85 e91 ns275 p196 (u199 112 (by decide) (by decide) (by decide)) ns276 (show (0 : Int) = 0 by omega) (show (0 : Int) = 0 by omega) (show (0 : Int) = 0 by omega) (by omega) e249 e258 (show (((q_I r219.2 12 24 a0).toNatClampNeg : Nat) : Int) = (q_I δ 12 24 a0).toInt by omega) (show (q_I r219.2 12 25 a0).toInt = (q_I r219.2 12 25 a0).toInt by omega) (show ((q_I d248 12 24 a0) + (1 : Int32)).toInt = (q_I δ 12 24 a0).toInt + 1 by omega) (show (q_I r219.2 12 5 a0).toInt = -1 by omega) (show (q_I r219.2 12 26 a0).toInt ≤ 500 by omega)
              have f279 := cb_12_2 I k_a0
              have f280 := cb_12_2 i259 k_a0
              have f281 : (q_I d257 12 2 a0).toInt = (q_I d248 12 2 a0).toInt := congrArg Int32.toInt (by rw [e258]; exact rI_o (by decide))
              have f282 := cb_12_2 i250 k_a0
              have f283 : (q_I d248 12 2 a0).toInt = (q_I r219.2 12 2 a0).toInt := congrArg Int32.toInt (by rw [e249]; rfl)
              have f284 := cb_12_2 i221 k_a0
              have f285 : (q_I r219.2 12 2 a0).toInt = (q_I r152 12 2 a0).toInt := congrArg Int32.toInt (u223 12 2 a0 (by decide))
              have f286 := cb_12_2 i190 k_a0
              have f287 : (q_I r152 12 2 a0).toInt = (q_I r136 12 2 a0).toInt := congrArg Int32.toInt (u197 12 2 a0 (by decide))
              have f288 := cb_12_2 i140 k_a0
              have f289 : (q_I r136 12 2 a0).toInt = (q_I r96.2 12 2 a0).toInt := congrArg Int32.toInt (u143 12 2 a0 (by decide))
              have f290 := cb_12_2 i98 k_a0
              have f291 : (q_I r96.2 12 2 a0).toInt = (q_I d90 12 2 a0).toInt := congrArg Int32.toInt (u102 12 2 a0 (by decide))
              have f292 := cb_12_2 i92 k_a0
              have f293 : (q_I d90 12 2 a0).toInt = (q_I d84 12 2 a0).toInt := congrArg Int32.toInt (by rw [e91]; exact rI_o (by decide))
              have f294 := cb_12_2 i86 k_a0
              have f295 : (q_I d84 12 2 a0).toInt = (q_I d78 12 2 a0).toInt := congrArg Int32.toInt (by rw [e85]; exact rI_o (by decide))
              have f296 := cb_12_2 i80 k_a0
              have f297 : (q_I d78 12 2 a0).toInt = (q_I r43 12 2 a0).toInt := congrArg Int32.toInt (by rw [e79]; exact rI_o (by decide))
              exact ok_some (show RI ad h.1 δ0 d257 ∧ (kp [(12, 0), (12, 2), (12, 3), (12, 4), (12, 5), (12, 6), (12, 7), (12, 8), (12, 24), (12, 25), (12, 26), (12, 27)] δ d257 ∧ q_V d257 = q_V δ ∧ kr ad [100, 112, 113, 114, 115, 116, 117] δ d257) ∧ TK ad a0 δ d257 ∧ (0 ≤ (x1).toInt ∧ (x1).toInt ≤ (q_I δ 12 2 a0).toInt → (q_I d257 12 2 a0).toInt = 0) ∧ ((x1).toInt < 0 ∨ (q_I δ 12 2 a0).toInt < (x1).toInt → (q_I d257 12 2 a0).toInt = (q_I δ 12 2 a0).toInt) from ⟨i259, ⟨kp_w (by decide) u267, v268, kr_w (by decide) v269⟩, ss273, by first | assumption | omega, by first | assumption | omega⟩)
            · have c298 : r219.1.toInt ≠ (q_I r219.2 12 24 a0).toInt := o_ne h239
              unfold J_X12_thief_146
              have ss299 : NS ad a0 δ d1 := NS.t NS.r (NS.w e2 (by decide))
              have ss300 : NS0 ad a0 δ r10.2 := NS0.t (NS.z ss299) (NS.z ns27)
              have ss301 : NS0 ad a0 δ r43 := NS0.t ss300 ns63
              have ns303 : NS ad a0 d90 r96.2 := NS.t NS.r ns125
              have ns304 : NS ad a0 d90 r136 := NS.t ns303 ns151
              have ns305 : NS ad a0 r152 r219.2 := NS.t NS.r ns232
              have ss302 : TK ad a0 δ r219.2 := TK.bad L ss301 e79 e85 e91 ns304 p196 (u199 112 (by decide) (by decide) (by decide)) ns305 (show (0 : Int) = 0 by omega) (show (0 : Int) = 0 by omega) (show (0 : Int) = 0 by omega) (by omega)
              have f306 := cb_12_2 I k_a0
              have f307 := cb_12_2 i221 k_a0
              have f308 : (q_I r219.2 12 2 a0).toInt = (q_I r152 12 2 a0).toInt := congrArg Int32.toInt (u223 12 2 a0 (by decide))
              have f309 := cb_12_2 i190 k_a0
              have f310 : (q_I r152 12 2 a0).toInt = (q_I r136 12 2 a0).toInt := congrArg Int32.toInt (u197 12 2 a0 (by decide))
              have f311 := cb_12_2 i140 k_a0
              have f312 : (q_I r136 12 2 a0).toInt = (q_I r96.2 12 2 a0).toInt := congrArg Int32.toInt (u143 12 2 a0 (by decide))
              have f313 := cb_12_2 i98 k_a0
              have f314 : (q_I r96.2 12 2 a0).toInt = (q_I d90 12 2 a0).toInt := congrArg Int32.toInt (u102 12 2 a0 (by decide))
              have f315 := cb_12_2 i92 k_a0
              have f316 : (q_I d90 12 2 a0).toInt = (q_I d84 12 2 a0).toInt := congrArg Int32.toInt (by rw [e91]; exact rI_o (by decide))
              have f317 := cb_12_2 i86 k_a0
              have f318 : (q_I d84 12 2 a0).toInt = (q_I d78 12 2 a0).toInt := congrArg Int32.toInt (by rw [e85]; exact rI_o (by decide))
              have f319 := cb_12_2 i80 k_a0
              have f320 : (q_I d78 12 2 a0).toInt = (q_I r43 12 2 a0).toInt := congrArg Int32.toInt (by rw [e79]; exact rI_o (by decide))
              exact ok_some (show RI ad h.1 δ0 r219.2 ∧ (kp [(12, 0), (12, 2), (12, 3), (12, 4), (12, 5), (12, 6), (12, 7), (12, 8), (12, 24), (12, 25), (12, 26), (12, 27)] δ r219.2 ∧ q_V r219.2 = q_V δ ∧ kr ad [100, 112, 113, 114, 115, 116, 117] δ r219.2) ∧ TK ad a0 δ r219.2 ∧ (0 ≤ (x1).toInt ∧ (x1).toInt ≤ (q_I δ 12 2 a0).toInt → (q_I r219.2 12 2 a0).toInt = 0) ∧ ((x1).toInt < 0 ∨ (q_I δ 12 2 a0).toInt < (x1).toInt → (q_I r219.2 12 2 a0).toInt = (q_I δ 12 2 a0).toInt) from ⟨i221, ⟨kp_w (by decide) u227, v228, kr_w (by decide) v229⟩, ss302, by first | assumption | omega, by first | assumption | omega⟩)
          · have c321 : r208.1.toInt ≠ (0 : Int) := o_ne h217
            refine ok_bind (k_X12_isMore L hN (a0 := a0) k_a0 i190) (fun r322 hr323 => ?_)
            obtain ⟨i324, ⟨u328, u329, u330, u331⟩, p325, p326, p327⟩ := hr323
            have u332 := kp_t u200 u328
            have v333 : q_V r322.2 = q_V δ := (u329).trans v201
            have v334 := kr_t v202 u331
            have f335 := bo_l p325
            have f336 := cb_12_4 i324 k_a0
            have f337 := ti_b r322.1
            have f338 := cb_12_3 i190 k_a0
            have f339 : (q_I r152 12 3 a0).toInt = (q_I r136 12 3 a0).toInt := congrArg Int32.toInt (u197 12 3 a0 (by decide))
            have f340 := cb_12_3 i140 k_a0
            have f341 : (q_I r136 12 3 a0).toInt = (q_I r96.2 12 3 a0).toInt := congrArg Int32.toInt (u143 12 3 a0 (by decide))
            have f342 := ti_b r322.1
            have f344 := cb_12_5 i324 k_a0
            have f345 : (q_I r322.2 12 5 a0).toInt = (q_I r152 12 5 a0).toInt := congrArg Int32.toInt (u328 12 5 a0 (by decide))
            have ns343 : NS ad a0 r152 r322.2 := ⟨u331 112 (by decide) (by decide) (by decide), u331 113 (by decide) (by decide) (by decide), u331 114 (by decide) (by decide) (by decide), u331 115 (by decide) (by decide) (by decide), u331 116 (by decide) (by decide) (by decide), u328 12 24 _ (by decide), u328 12 25 _ (by decide), u328 12 26 _ (by decide), u328 12 27 _ (by decide), fun z => by omega⟩
            refine ok_ite (fun h346 => ?_) (fun h346 => ?_)
            · have c347 : r322.1.toInt = (0 : Int) := o_eq h346
              unfold J_X12_thief_106
              refine ok_bind (k_X12_result L hN (a0 := a0) (x1 := (q_I r322.2 12 24 a0)) k_a0 i324) (fun r348 hr349 => ?_)
              obtain ⟨i350, ⟨u352, u353, u354, u355⟩, p351⟩ := hr349
              have u356 := kp_t u332 u352
              have v357 : q_V r348.2 = q_V δ := (u353).trans v333
              have v358 := kr_t v334 u355
              have f359 := ti_b r348.1
              have f360 := ti_b r348.1
              have f362 := cb_12_5 i350 k_a0
              have f363 : (q_I r348.2 12 5 a0).toInt = (q_I r322.2 12 5 a0).toInt := congrArg Int32.toInt (u352 12 5 a0 (by decide))
              have ns361 : NS ad a0 r322.2 r348.2 := ⟨u355 112 (by decide) (by decide) (by decide), u355 113 (by decide) (by decide) (by decide), u355 114 (by decide) (by decide) (by decide), u355 115 (by decide) (by decide) (by decide), u355 116 (by decide) (by decide) (by decide), u352 12 24 _ (by decide), u352 12 25 _ (by decide), u352 12 26 _ (by decide), u352 12 27 _ (by decide), fun z => by omega⟩
              have f364 := cb_12_24 i350 k_a0
              have f365 : (q_I r348.2 12 24 a0).toInt = (q_I r322.2 12 24 a0).toInt := congrArg Int32.toInt (u352 12 24 a0 (by decide))
              have f366 := cb_12_24 i324 k_a0
              have f367 : (q_I r322.2 12 24 a0).toInt = (q_I r152 12 24 a0).toInt := congrArg Int32.toInt (u328 12 24 a0 (by decide))
              have f368 := cb_12_24 i190 k_a0
              have f369 : (q_I r152 12 24 a0).toInt = (q_I r136 12 24 a0).toInt := congrArg Int32.toInt (u197 12 24 a0 (by decide))
              refine ok_ite (fun h370 => ?_) (fun h370 => ?_)
              · have c371 : r348.1.toInt = (q_I r348.2 12 24 a0).toInt := o_eq h370
                obtain ⟨b372, o373, k374, n375⟩ := gO_12_28 L k_a0
                obtain rfl := gS_12_28 L k_a0 o373
                refine ok_at o373 ?_
                have t376 := ti_tn (q_I r348.2 12 24 a0)
                refine ok_gd (fun hc377 => ?_) ?_
                · rcases hc377 with hc377 | hc377
                  · have c378 : (q_I r348.2 12 24 a0).toInt < (0 : Int) := o_lt hc377
                    omega
                  · omega
                have f382 := cb_12_25 i350 k_a0
                have f383 : (q_I r348.2 12 25 a0).toInt = (q_I r322.2 12 25 a0).toInt := congrArg Int32.toInt (u352 12 25 a0 (by decide))
                have f384 := cb_12_25 i324 k_a0
                have f385 : (q_I r322.2 12 25 a0).toInt = (q_I r152 12 25 a0).toInt := congrArg Int32.toInt (u328 12 25 a0 (by decide))
                have f386 := cb_12_25 i190 k_a0
                refine ok_bdv (fun d379 e380 => ?_)
                have i381 : RI ad h.1 δ0 d379 := by rw [e380]; exact cr_112 L i350 (show 0 ≤ (q_I r348.2 12 25 a0).toInt by omega) (show (q_I r348.2 12 25 a0).toInt ≤ 60 by omega)
                have u387 := kp_N u356 (show q_I d379 = q_I r348.2 by rw [e380]; rfl)
                have v388 : q_V d379 = q_V δ := ((show q_V d379 = q_V r348.2 by rw [e380]; rfl)).trans v357
                have v389 := kr_s L (by decide) v358 e380
                have f393 := cb_12_24 i381 k_a0
                have f394 : (q_I d379 12 24 a0).toInt = (q_I r348.2 12 24 a0).toInt := congrArg Int32.toInt (by rw [e380]; rfl)
                first | (have q396 := te_addc (c := 1) (n := 1) rfl (q_I d379 12 24 a0) (by omega) (by omega); obtain ⟨f397, f398, f399⟩ := q396) | (obtain ⟨q396, f397, f398, f399⟩ := ti_addc (c := 1) (n := 1) rfl (q_I d379 12 24 a0))
                refine ok_bdv (fun d390 e391 => ?_)
                have i392 : RI ad h.1 δ0 d390 := by rw [e391]; exact cs_12_24 L i381 k_a0 (show 0 ≤ ((q_I d379 12 24 a0) + (1 : Int32)).toInt by omega) (show ((q_I d379 12 24 a0) + (1 : Int32)).toInt ≤ 4 by omega)
                have u400 := kp_I u387 e391
                have v401 : q_V d390 = q_V δ := ((show q_V d390 = q_V d379 by rw [e391]; rfl)).trans v388
                have v402 := kr_N v389 (show q_R d390 = q_R d379 by rw [e391]; rfl)
                unfold J_X12_thief_146
                have ss403 : NS ad a0 δ d1 := NS.t NS.r (NS.w e2 (by decide))
                have ss404 : NS0 ad a0 δ r10.2 := NS0.t (NS.z ss403) (NS.z ns27)
                have ss405 : NS0 ad a0 δ r43 := NS0.t ss404 ns63
                have ns407 : NS ad a0 d90 r96.2 := NS.t NS.r ns125
                have ns408 : NS ad a0 d90 r136 := NS.t ns407 ns151
                have ns409 : NS ad a0 r152 r322.2 := NS.t NS.r ns343
                have ns410 : NS ad a0 r152 r348.2 := NS.t ns409 ns361
                have f411 := cb_12_26 i350 k_a0
                have f412 : (q_I r348.2 12 26 a0).toInt = (q_I r322.2 12 26 a0).toInt := congrArg Int32.toInt (u352 12 26 a0 (by decide))
                have f413 := cb_12_26 i324 k_a0
                have f414 : (q_I r322.2 12 26 a0).toInt = (q_I r152 12 26 a0).toInt := congrArg Int32.toInt (u328 12 26 a0 (by decide))
                have ss406 : TK ad a0 δ d390 := TK.good L ss405 e79 e85 e91 ns408 p196 (u199 112 (by decide) (by decide) (by decide)) ns410 (show (0 : Int) = 0 by omega) (show (0 : Int) = 0 by omega) (show (0 : Int) = 0 by omega) (by omega) e380 e391 (show (((q_I r348.2 12 24 a0).toNatClampNeg : Nat) : Int) = (q_I δ 12 24 a0).toInt by omega) (show (q_I r348.2 12 25 a0).toInt = (q_I r348.2 12 25 a0).toInt by omega) (show ((q_I d379 12 24 a0) + (1 : Int32)).toInt = (q_I δ 12 24 a0).toInt + 1 by omega) (show (q_I r348.2 12 5 a0).toInt = -1 by omega) (show (q_I r348.2 12 26 a0).toInt ≤ 500 by omega)
                have f415 := cb_12_2 I k_a0
                have f416 := cb_12_2 i392 k_a0
                have f417 : (q_I d390 12 2 a0).toInt = (q_I d379 12 2 a0).toInt := congrArg Int32.toInt (by rw [e391]; exact rI_o (by decide))
                have f418 := cb_12_2 i381 k_a0
                have f419 : (q_I d379 12 2 a0).toInt = (q_I r348.2 12 2 a0).toInt := congrArg Int32.toInt (by rw [e380]; rfl)
                have f420 := cb_12_2 i350 k_a0
                have f421 : (q_I r348.2 12 2 a0).toInt = (q_I r322.2 12 2 a0).toInt := congrArg Int32.toInt (u352 12 2 a0 (by decide))
                have f422 := cb_12_2 i324 k_a0
                have f423 : (q_I r322.2 12 2 a0).toInt = (q_I r152 12 2 a0).toInt := congrArg Int32.toInt (u328 12 2 a0 (by decide))
                have f424 := cb_12_2 i190 k_a0
                have f425 : (q_I r152 12 2 a0).toInt = (q_I r136 12 2 a0).toInt := congrArg Int32.toInt (u197 12 2 a0 (by decide))
                have f426 := cb_12_2 i140 k_a0
                have f427 : (q_I r136 12 2 a0).toInt = (q_I r96.2 12 2 a0).toInt := congrArg Int32.toInt (u143 12 2 a0 (by decide))
                have f428 := cb_12_2 i98 k_a0
                have f429 : (q_I r96.2 12 2 a0).toInt = (q_I d90 12 2 a0).toInt := congrArg Int32.toInt (u102 12 2 a0 (by decide))
                have f430 := cb_12_2 i92 k_a0
                have f431 : (q_I d90 12 2 a0).toInt = (q_I d84 12 2 a0).toInt := congrArg Int32.toInt (by rw [e91]; exact rI_o (by decide))
                have f432 := cb_12_2 i86 k_a0
                have f433 : (q_I d84 12 2 a0).toInt = (q_I d78 12 2 a0).toInt := congrArg Int32.toInt (by rw [e85]; exact rI_o (by decide))
                have f434 := cb_12_2 i80 k_a0
                have f435 : (q_I d78 12 2 a0).toInt = (q_I r43 12 2 a0).toInt := congrArg Int32.toInt (by rw [e79]; exact rI_o (by decide))
                exact ok_some (show RI ad h.1 δ0 d390 ∧ (kp [(12, 0), (12, 2), (12, 3), (12, 4), (12, 5), (12, 6), (12, 7), (12, 8), (12, 24), (12, 25), (12, 26), (12, 27)] δ d390 ∧ q_V d390 = q_V δ ∧ kr ad [100, 112, 113, 114, 115, 116, 117] δ d390) ∧ TK ad a0 δ d390 ∧ (0 ≤ (x1).toInt ∧ (x1).toInt ≤ (q_I δ 12 2 a0).toInt → (q_I d390 12 2 a0).toInt = 0) ∧ ((x1).toInt < 0 ∨ (q_I δ 12 2 a0).toInt < (x1).toInt → (q_I d390 12 2 a0).toInt = (q_I δ 12 2 a0).toInt) from ⟨i392, ⟨kp_w (by decide) u400, v401, kr_w (by decide) v402⟩, ss406, by first | assumption | omega, by first | assumption | omega⟩)
              · have c436 : r348.1.toInt ≠ (q_I r348.2 12 24 a0).toInt := o_ne h370
                unfold J_X12_thief_146
                have ss437 : NS ad a0 δ d1 := NS.t NS.r (NS.w e2 (by decide))
                have ss438 : NS0 ad a0 δ r10.2 := NS0.t (NS.z ss437) (NS.z ns27)
                have ss439 : NS0 ad a0 δ r43 := NS0.t ss438 ns63
                have ns441 : NS ad a0 d90 r96.2 := NS.t NS.r ns125
                have ns442 : NS ad a0 d90 r136 := NS.t ns441 ns151
                have ns443 : NS ad a0 r152 r322.2 := NS.t NS.r ns343
                have ns444 : NS ad a0 r152 r348.2 := NS.t ns443 ns361
                have ss440 : TK ad a0 δ r348.2 := TK.bad L ss439 e79 e85 e91 ns442 p196 (u199 112 (by decide) (by decide) (by decide)) ns444 (show (0 : Int) = 0 by omega) (show (0 : Int) = 0 by omega) (show (0 : Int) = 0 by omega) (by omega)
                have f445 := cb_12_2 I k_a0
                have f446 := cb_12_2 i350 k_a0
                have f447 : (q_I r348.2 12 2 a0).toInt = (q_I r322.2 12 2 a0).toInt := congrArg Int32.toInt (u352 12 2 a0 (by decide))
                have f448 := cb_12_2 i324 k_a0
                have f449 : (q_I r322.2 12 2 a0).toInt = (q_I r152 12 2 a0).toInt := congrArg Int32.toInt (u328 12 2 a0 (by decide))
                have f450 := cb_12_2 i190 k_a0
                have f451 : (q_I r152 12 2 a0).toInt = (q_I r136 12 2 a0).toInt := congrArg Int32.toInt (u197 12 2 a0 (by decide))
                have f452 := cb_12_2 i140 k_a0
                have f453 : (q_I r136 12 2 a0).toInt = (q_I r96.2 12 2 a0).toInt := congrArg Int32.toInt (u143 12 2 a0 (by decide))
                have f454 := cb_12_2 i98 k_a0
                have f455 : (q_I r96.2 12 2 a0).toInt = (q_I d90 12 2 a0).toInt := congrArg Int32.toInt (u102 12 2 a0 (by decide))
                have f456 := cb_12_2 i92 k_a0
                have f457 : (q_I d90 12 2 a0).toInt = (q_I d84 12 2 a0).toInt := congrArg Int32.toInt (by rw [e91]; exact rI_o (by decide))
                have f458 := cb_12_2 i86 k_a0
                have f459 : (q_I d84 12 2 a0).toInt = (q_I d78 12 2 a0).toInt := congrArg Int32.toInt (by rw [e85]; exact rI_o (by decide))
                have f460 := cb_12_2 i80 k_a0
                have f461 : (q_I d78 12 2 a0).toInt = (q_I r43 12 2 a0).toInt := congrArg Int32.toInt (by rw [e79]; exact rI_o (by decide))
                exact ok_some (show RI ad h.1 δ0 r348.2 ∧ (kp [(12, 0), (12, 2), (12, 3), (12, 4), (12, 5), (12, 6), (12, 7), (12, 8), (12, 24), (12, 25), (12, 26), (12, 27)] δ r348.2 ∧ q_V r348.2 = q_V δ ∧ kr ad [100, 112, 113, 114, 115, 116, 117] δ r348.2) ∧ TK ad a0 δ r348.2 ∧ (0 ≤ (x1).toInt ∧ (x1).toInt ≤ (q_I δ 12 2 a0).toInt → (q_I r348.2 12 2 a0).toInt = 0) ∧ ((x1).toInt < 0 ∨ (q_I δ 12 2 a0).toInt < (x1).toInt → (q_I r348.2 12 2 a0).toInt = (q_I δ 12 2 a0).toInt) from ⟨i350, ⟨kp_w (by decide) u356, v357, kr_w (by decide) v358⟩, ss440, by first | assumption | omega, by first | assumption | omega⟩)
            · have c462 : r322.1.toInt ≠ (0 : Int) := o_ne h346
              refine ok_bind (k_X12_wrong L hN (a0 := a0) (x1 := (1 : Int32)) (x2 := (q_I r322.2 12 4 a0)) k_a0 (show 0 ≤ ((q_I r322.2 12 4 a0)).toInt by first | assumption | omega) (show ((q_I r322.2 12 4 a0)).toInt ≤ 500 by first | assumption | omega) (show 0 ≤ (1 : Int) by first | assumption | omega) (show (1 : Int) ≤ 4 by first | assumption | omega) i324) (fun r463 hr464 => ?_)
              obtain ⟨i465, ⟨u468, u469, u470, u471⟩, p466, p467⟩ := hr464
              have u472 := kp_t u332 u468
              have v473 : q_V r463 = q_V δ := (u469).trans v333
              have v474 := kr_t v334 u471
              have f475 := cb_12_5 i465 k_a0
              have ns476 : NS ad a0 r322.2 r463 := ⟨u471 112 (by decide) (by decide) (by decide), u471 113 (by decide) (by decide) (by decide), u471 114 (by decide) (by decide) (by decide), u471 115 (by decide) (by decide) (by decide), u471 116 (by decide) (by decide) (by decide), u468 12 24 _ (by decide), u468 12 25 _ (by decide), u468 12 26 _ (by decide), u468 12 27 _ (by decide), fun z => by omega⟩
              unfold J_X12_thief_106
              refine ok_bind (k_X12_result L hN (a0 := a0) (x1 := (q_I r463 12 24 a0)) k_a0 i465) (fun r477 hr478 => ?_)
              obtain ⟨i479, ⟨u481, u482, u483, u484⟩, p480⟩ := hr478
              have u485 := kp_t u472 u481
              have v486 : q_V r477.2 = q_V δ := (u482).trans v473
              have v487 := kr_t v474 u484
              have f488 := ti_b r477.1
              have f489 := ti_b r477.1
              have f491 := cb_12_5 i479 k_a0
              have f492 : (q_I r477.2 12 5 a0).toInt = (q_I r463 12 5 a0).toInt := congrArg Int32.toInt (u481 12 5 a0 (by decide))
              have ns490 : NS ad a0 r463 r477.2 := ⟨u484 112 (by decide) (by decide) (by decide), u484 113 (by decide) (by decide) (by decide), u484 114 (by decide) (by decide) (by decide), u484 115 (by decide) (by decide) (by decide), u484 116 (by decide) (by decide) (by decide), u481 12 24 _ (by decide), u481 12 25 _ (by decide), u481 12 26 _ (by decide), u481 12 27 _ (by decide), fun z => by omega⟩
              have f493 := cb_12_24 i479 k_a0
              have f494 : (q_I r477.2 12 24 a0).toInt = (q_I r463 12 24 a0).toInt := congrArg Int32.toInt (u481 12 24 a0 (by decide))
              have f495 := cb_12_24 i465 k_a0
              have f496 : (q_I r463 12 24 a0).toInt = (q_I r322.2 12 24 a0).toInt := congrArg Int32.toInt (u468 12 24 a0 (by decide))
              have f497 := cb_12_24 i324 k_a0
              have f498 : (q_I r322.2 12 24 a0).toInt = (q_I r152 12 24 a0).toInt := congrArg Int32.toInt (u328 12 24 a0 (by decide))
              have f499 := cb_12_24 i190 k_a0
              have f500 : (q_I r152 12 24 a0).toInt = (q_I r136 12 24 a0).toInt := congrArg Int32.toInt (u197 12 24 a0 (by decide))
              refine ok_ite (fun h501 => ?_) (fun h501 => ?_)
              · have c502 : r477.1.toInt = (q_I r477.2 12 24 a0).toInt := o_eq h501
                obtain ⟨b503, o504, k505, n506⟩ := gO_12_28 L k_a0
                obtain rfl := gS_12_28 L k_a0 o504
                refine ok_at o504 ?_
                have t507 := ti_tn (q_I r477.2 12 24 a0)
                refine ok_gd (fun hc508 => ?_) ?_
                · rcases hc508 with hc508 | hc508
                  · have c509 : (q_I r477.2 12 24 a0).toInt < (0 : Int) := o_lt hc508
                    omega
                  · omega
                have f513 := cb_12_25 i479 k_a0
                have f514 : (q_I r477.2 12 25 a0).toInt = (q_I r463 12 25 a0).toInt := congrArg Int32.toInt (u481 12 25 a0 (by decide))
                have f515 := cb_12_25 i465 k_a0
                have f516 : (q_I r463 12 25 a0).toInt = (q_I r322.2 12 25 a0).toInt := congrArg Int32.toInt (u468 12 25 a0 (by decide))
                have f517 := cb_12_25 i324 k_a0
                have f518 : (q_I r322.2 12 25 a0).toInt = (q_I r152 12 25 a0).toInt := congrArg Int32.toInt (u328 12 25 a0 (by decide))
                have f519 := cb_12_25 i190 k_a0
                refine ok_bdv (fun d510 e511 => ?_)
                have i512 : RI ad h.1 δ0 d510 := by rw [e511]; exact cr_112 L i479 (show 0 ≤ (q_I r477.2 12 25 a0).toInt by omega) (show (q_I r477.2 12 25 a0).toInt ≤ 60 by omega)
                have u520 := kp_N u485 (show q_I d510 = q_I r477.2 by rw [e511]; rfl)
                have v521 : q_V d510 = q_V δ := ((show q_V d510 = q_V r477.2 by rw [e511]; rfl)).trans v486
                have v522 := kr_s L (by decide) v487 e511
                have f526 := cb_12_24 i512 k_a0
                have f527 : (q_I d510 12 24 a0).toInt = (q_I r477.2 12 24 a0).toInt := congrArg Int32.toInt (by rw [e511]; rfl)
                first | (have q529 := te_addc (c := 1) (n := 1) rfl (q_I d510 12 24 a0) (by omega) (by omega); obtain ⟨f530, f531, f532⟩ := q529) | (obtain ⟨q529, f530, f531, f532⟩ := ti_addc (c := 1) (n := 1) rfl (q_I d510 12 24 a0))
                refine ok_bdv (fun d523 e524 => ?_)
                have i525 : RI ad h.1 δ0 d523 := by rw [e524]; exact cs_12_24 L i512 k_a0 (show 0 ≤ ((q_I d510 12 24 a0) + (1 : Int32)).toInt by omega) (show ((q_I d510 12 24 a0) + (1 : Int32)).toInt ≤ 4 by omega)
                have u533 := kp_I u520 e524
                have v534 : q_V d523 = q_V δ := ((show q_V d523 = q_V d510 by rw [e524]; rfl)).trans v521
                have v535 := kr_N v522 (show q_R d523 = q_R d510 by rw [e524]; rfl)
                unfold J_X12_thief_146
                have ss536 : NS ad a0 δ d1 := NS.t NS.r (NS.w e2 (by decide))
                have ss537 : NS0 ad a0 δ r10.2 := NS0.t (NS.z ss536) (NS.z ns27)
                have ss538 : NS0 ad a0 δ r43 := NS0.t ss537 ns63
                have ns540 : NS ad a0 d90 r96.2 := NS.t NS.r ns125
                have ns541 : NS ad a0 d90 r136 := NS.t ns540 ns151
                have ns542 : NS ad a0 r152 r322.2 := NS.t NS.r ns343
                have ns543 : NS ad a0 r152 r463 := NS.t ns542 ns476
                have ns544 : NS ad a0 r152 r477.2 := NS.t ns543 ns490
                have f545 := cb_12_26 i479 k_a0
                have f546 : (q_I r477.2 12 26 a0).toInt = (q_I r463 12 26 a0).toInt := congrArg Int32.toInt (u481 12 26 a0 (by decide))
                have f547 := cb_12_26 i465 k_a0
                have f548 : (q_I r463 12 26 a0).toInt = (q_I r322.2 12 26 a0).toInt := congrArg Int32.toInt (u468 12 26 a0 (by decide))
                have f549 := cb_12_26 i324 k_a0
                have f550 : (q_I r322.2 12 26 a0).toInt = (q_I r152 12 26 a0).toInt := congrArg Int32.toInt (u328 12 26 a0 (by decide))
                have ss539 : TK ad a0 δ d523 := TK.good L ss538 e79 e85 e91 ns541 p196 (u199 112 (by decide) (by decide) (by decide)) ns544 (show (0 : Int) = 0 by omega) (show (0 : Int) = 0 by omega) (show (0 : Int) = 0 by omega) (by omega) e511 e524 (show (((q_I r477.2 12 24 a0).toNatClampNeg : Nat) : Int) = (q_I δ 12 24 a0).toInt by omega) (show (q_I r477.2 12 25 a0).toInt = (q_I r477.2 12 25 a0).toInt by omega) (show ((q_I d510 12 24 a0) + (1 : Int32)).toInt = (q_I δ 12 24 a0).toInt + 1 by omega) (show (q_I r477.2 12 5 a0).toInt = -1 by omega) (show (q_I r477.2 12 26 a0).toInt ≤ 500 by omega)
                have f551 := cb_12_2 I k_a0
                have f552 := cb_12_2 i525 k_a0
                have f553 : (q_I d523 12 2 a0).toInt = (q_I d510 12 2 a0).toInt := congrArg Int32.toInt (by rw [e524]; exact rI_o (by decide))
                have f554 := cb_12_2 i512 k_a0
                have f555 : (q_I d510 12 2 a0).toInt = (q_I r477.2 12 2 a0).toInt := congrArg Int32.toInt (by rw [e511]; rfl)
                have f556 := cb_12_2 i479 k_a0
                have f557 : (q_I r477.2 12 2 a0).toInt = (q_I r463 12 2 a0).toInt := congrArg Int32.toInt (u481 12 2 a0 (by decide))
                have f558 := cb_12_2 i465 k_a0
                have f559 : (q_I r463 12 2 a0).toInt = (q_I r322.2 12 2 a0).toInt := congrArg Int32.toInt (u468 12 2 a0 (by decide))
                have f560 := cb_12_2 i324 k_a0
                have f561 : (q_I r322.2 12 2 a0).toInt = (q_I r152 12 2 a0).toInt := congrArg Int32.toInt (u328 12 2 a0 (by decide))
                have f562 := cb_12_2 i190 k_a0
                have f563 : (q_I r152 12 2 a0).toInt = (q_I r136 12 2 a0).toInt := congrArg Int32.toInt (u197 12 2 a0 (by decide))
                have f564 := cb_12_2 i140 k_a0
                have f565 : (q_I r136 12 2 a0).toInt = (q_I r96.2 12 2 a0).toInt := congrArg Int32.toInt (u143 12 2 a0 (by decide))
                have f566 := cb_12_2 i98 k_a0
                have f567 : (q_I r96.2 12 2 a0).toInt = (q_I d90 12 2 a0).toInt := congrArg Int32.toInt (u102 12 2 a0 (by decide))
                have f568 := cb_12_2 i92 k_a0
                have f569 : (q_I d90 12 2 a0).toInt = (q_I d84 12 2 a0).toInt := congrArg Int32.toInt (by rw [e91]; exact rI_o (by decide))
                have f570 := cb_12_2 i86 k_a0
                have f571 : (q_I d84 12 2 a0).toInt = (q_I d78 12 2 a0).toInt := congrArg Int32.toInt (by rw [e85]; exact rI_o (by decide))
                have f572 := cb_12_2 i80 k_a0
                have f573 : (q_I d78 12 2 a0).toInt = (q_I r43 12 2 a0).toInt := congrArg Int32.toInt (by rw [e79]; exact rI_o (by decide))
                exact ok_some (show RI ad h.1 δ0 d523 ∧ (kp [(12, 0), (12, 2), (12, 3), (12, 4), (12, 5), (12, 6), (12, 7), (12, 8), (12, 24), (12, 25), (12, 26), (12, 27)] δ d523 ∧ q_V d523 = q_V δ ∧ kr ad [100, 112, 113, 114, 115, 116, 117] δ d523) ∧ TK ad a0 δ d523 ∧ (0 ≤ (x1).toInt ∧ (x1).toInt ≤ (q_I δ 12 2 a0).toInt → (q_I d523 12 2 a0).toInt = 0) ∧ ((x1).toInt < 0 ∨ (q_I δ 12 2 a0).toInt < (x1).toInt → (q_I d523 12 2 a0).toInt = (q_I δ 12 2 a0).toInt) from ⟨i525, ⟨kp_w (by decide) u533, v534, kr_w (by decide) v535⟩, ss539, by first | assumption | omega, by first | assumption | omega⟩)
              · have c574 : r477.1.toInt ≠ (q_I r477.2 12 24 a0).toInt := o_ne h501
                unfold J_X12_thief_146
                have ss575 : NS ad a0 δ d1 := NS.t NS.r (NS.w e2 (by decide))
                have ss576 : NS0 ad a0 δ r10.2 := NS0.t (NS.z ss575) (NS.z ns27)
                have ss577 : NS0 ad a0 δ r43 := NS0.t ss576 ns63
                have ns579 : NS ad a0 d90 r96.2 := NS.t NS.r ns125
                have ns580 : NS ad a0 d90 r136 := NS.t ns579 ns151
                have ns581 : NS ad a0 r152 r322.2 := NS.t NS.r ns343
                have ns582 : NS ad a0 r152 r463 := NS.t ns581 ns476
                have ns583 : NS ad a0 r152 r477.2 := NS.t ns582 ns490
                have ss578 : TK ad a0 δ r477.2 := TK.bad L ss577 e79 e85 e91 ns580 p196 (u199 112 (by decide) (by decide) (by decide)) ns583 (show (0 : Int) = 0 by omega) (show (0 : Int) = 0 by omega) (show (0 : Int) = 0 by omega) (by omega)
                have f584 := cb_12_2 I k_a0
                have f585 := cb_12_2 i479 k_a0
                have f586 : (q_I r477.2 12 2 a0).toInt = (q_I r463 12 2 a0).toInt := congrArg Int32.toInt (u481 12 2 a0 (by decide))
                have f587 := cb_12_2 i465 k_a0
                have f588 : (q_I r463 12 2 a0).toInt = (q_I r322.2 12 2 a0).toInt := congrArg Int32.toInt (u468 12 2 a0 (by decide))
                have f589 := cb_12_2 i324 k_a0
                have f590 : (q_I r322.2 12 2 a0).toInt = (q_I r152 12 2 a0).toInt := congrArg Int32.toInt (u328 12 2 a0 (by decide))
                have f591 := cb_12_2 i190 k_a0
                have f592 : (q_I r152 12 2 a0).toInt = (q_I r136 12 2 a0).toInt := congrArg Int32.toInt (u197 12 2 a0 (by decide))
                have f593 := cb_12_2 i140 k_a0
                have f594 : (q_I r136 12 2 a0).toInt = (q_I r96.2 12 2 a0).toInt := congrArg Int32.toInt (u143 12 2 a0 (by decide))
                have f595 := cb_12_2 i98 k_a0
                have f596 : (q_I r96.2 12 2 a0).toInt = (q_I d90 12 2 a0).toInt := congrArg Int32.toInt (u102 12 2 a0 (by decide))
                have f597 := cb_12_2 i92 k_a0
                have f598 : (q_I d90 12 2 a0).toInt = (q_I d84 12 2 a0).toInt := congrArg Int32.toInt (by rw [e91]; exact rI_o (by decide))
                have f599 := cb_12_2 i86 k_a0
                have f600 : (q_I d84 12 2 a0).toInt = (q_I d78 12 2 a0).toInt := congrArg Int32.toInt (by rw [e85]; exact rI_o (by decide))
                have f601 := cb_12_2 i80 k_a0
                have f602 : (q_I d78 12 2 a0).toInt = (q_I r43 12 2 a0).toInt := congrArg Int32.toInt (by rw [e79]; exact rI_o (by decide))
                exact ok_some (show RI ad h.1 δ0 r477.2 ∧ (kp [(12, 0), (12, 2), (12, 3), (12, 4), (12, 5), (12, 6), (12, 7), (12, 8), (12, 24), (12, 25), (12, 26), (12, 27)] δ r477.2 ∧ q_V r477.2 = q_V δ ∧ kr ad [100, 112, 113, 114, 115, 116, 117] δ r477.2) ∧ TK ad a0 δ r477.2 ∧ (0 ≤ (x1).toInt ∧ (x1).toInt ≤ (q_I δ 12 2 a0).toInt → (q_I r477.2 12 2 a0).toInt = 0) ∧ ((x1).toInt < 0 ∨ (q_I δ 12 2 a0).toInt < (x1).toInt → (q_I r477.2 12 2 a0).toInt = (q_I δ 12 2 a0).toInt) from ⟨i479, ⟨kp_w (by decide) u485, v486, kr_w (by decide) v487⟩, ss578, by first | assumption | omega, by first | assumption | omega⟩)
        · have c603 : r96.1.toInt ≠ (0 : Int) := o_ne h134
          unfold J_X12_thief_79
          have f606 := cb_12_24 i98 k_a0
          have f607 : (q_I r96.2 12 24 a0).toInt = (q_I d90 12 24 a0).toInt := congrArg Int32.toInt (u102 12 24 a0 (by decide))
          have f608 := cb_12_24 i92 k_a0
          have f609 : (q_I d90 12 24 a0).toInt = (q_I d84 12 24 a0).toInt := congrArg Int32.toInt (by rw [e91]; exact rI_o (by decide))
          have f610 := cb_12_24 i86 k_a0
          have f611 : (q_I d84 12 24 a0).toInt = (q_I d78 12 24 a0).toInt := congrArg Int32.toInt (by rw [e85]; exact rI_o (by decide))
          have f612 := cb_12_24 i80 k_a0
          have f613 : (q_I d78 12 24 a0).toInt = (q_I r43 12 24 a0).toInt := congrArg Int32.toInt (by rw [e79]; exact rI_o (by decide))
          have f614 := cb_12_26 i98 k_a0
          have f615 : (q_I r96.2 12 26 a0).toInt = (q_I d90 12 26 a0).toInt := congrArg Int32.toInt (u102 12 26 a0 (by decide))
          have f616 := cb_12_26 i92 k_a0
          have f617 : (q_I d90 12 26 a0).toInt = (q_I d84 12 26 a0).toInt := congrArg Int32.toInt (by rw [e91]; exact rI_o (by decide))
          have f618 := cb_12_26 i86 k_a0
          have f619 : (q_I d84 12 26 a0).toInt = (0 : Int) := congrArg Int32.toInt (show q_I d84 12 26 a0 = (0 : Int32) by rw [e85]; exact rI_s)
          have f620 := ti_b (q_I r96.2 12 7 a0)
          have f621 : (q_I r96.2 12 7 a0).toInt = (q_I d90 12 7 a0).toInt := congrArg Int32.toInt (u102 12 7 a0 (by decide))
          have f622 := ti_b (q_I d90 12 7 a0)
          have f623 : (q_I d90 12 7 a0).toInt = (q_I d84 12 7 a0).toInt := congrArg Int32.toInt (by rw [e91]; exact rI_o (by decide))
          have f624 := ti_b (q_I d84 12 7 a0)
          have f625 : (q_I d84 12 7 a0).toInt = (q_I d78 12 7 a0).toInt := congrArg Int32.toInt (by rw [e85]; exact rI_o (by decide))
          have f626 := ti_b (q_I d78 12 7 a0)
          have f627 : (q_I d78 12 7 a0).toInt = (q_I r43 12 7 a0).toInt := congrArg Int32.toInt (by rw [e79]; exact rI_o (by decide))
          have f628 := cb_12_27 i98 k_a0
          have f629 : (q_I r96.2 12 27 a0).toInt = (q_I d90 12 27 a0).toInt := congrArg Int32.toInt (u102 12 27 a0 (by decide))
          have f630 := cb_12_27 i92 k_a0
          have f631 : (q_I d90 12 27 a0).toInt = (0 : Int) := congrArg Int32.toInt (show q_I d90 12 27 a0 = (0 : Int32) by rw [e91]; exact rI_s)
          refine ok_bind (k_X12_readSteps L hN (a0 := a0) k_a0 (show (q_I r96.2 12 24 a0).toInt ≤ 3 by first | assumption | omega) (show (q_I r96.2 12 26 a0).toInt ≤ (q_I r96.2 12 4 a0).toInt by first | assumption | omega) (show (q_I r96.2 12 7 a0).toInt = 0 by first | assumption | omega) (show 4 - (q_I r96.2 12 27 a0).toInt < 20 by first | assumption | omega) i98) (fun r604 hr605 => ?_)
          obtain ⟨i632, ⟨u639, u640, u641⟩, p633, p634, p635, p636, p637, p638⟩ := hr605
          have u642 := kp_t u106 u639
          have v643 : q_V r604 = q_V δ := (u640).trans v107
          have v644 := kr_t v108 u641
          have f645 := cb_12_4 i632 k_a0
          have f646 := cb_12_5 i632 k_a0
          have f647 := ti_b (q_I r604 12 7 a0)
          have f648 := cb_12_27 i632 k_a0
          have f649 := cb_12_26 i632 k_a0
          refine ok_bind (k_X12_fine L hN (a0 := a0) k_a0 i632) (fun r650 hr651 => ?_)
          obtain ⟨i652, p653, p654, p655⟩ := hr651
          try rw [i652]
          have f656 := bo_l p653
          have f657 := ti_b r650.1
          have f658 := ti_b r650.1
          refine ok_ite (fun h659 => ?_) (fun h659 => ?_)
          · have c660 : r650.1.toInt = (0 : Int) := o_eq h659
            unfold J_X12_thief_106
            refine ok_bind (k_X12_result L hN (a0 := a0) (x1 := (q_I r604 12 24 a0)) k_a0 i632) (fun r661 hr662 => ?_)
            obtain ⟨i663, ⟨u665, u666, u667, u668⟩, p664⟩ := hr662
            have u669 := kp_t u642 u665
            have v670 : q_V r661.2 = q_V δ := (u666).trans v643
            have v671 := kr_t v644 u668
            have f672 := ti_b r661.1
            have f673 := ti_b r661.1
            have f675 := cb_12_5 i663 k_a0
            have f676 : (q_I r661.2 12 5 a0).toInt = (q_I r604 12 5 a0).toInt := congrArg Int32.toInt (u665 12 5 a0 (by decide))
            have ns674 : NS ad a0 r604 r661.2 := ⟨u668 112 (by decide) (by decide) (by decide), u668 113 (by decide) (by decide) (by decide), u668 114 (by decide) (by decide) (by decide), u668 115 (by decide) (by decide) (by decide), u668 116 (by decide) (by decide) (by decide), u665 12 24 _ (by decide), u665 12 25 _ (by decide), u665 12 26 _ (by decide), u665 12 27 _ (by decide), fun z => by omega⟩
            have f677 := cb_12_24 i663 k_a0
            have f678 : (q_I r661.2 12 24 a0).toInt = (q_I r604 12 24 a0).toInt := congrArg Int32.toInt (u665 12 24 a0 (by decide))
            have f679 := cb_12_24 i632 k_a0
            have f680 : (q_I r604 12 24 a0).toInt = (q_I r96.2 12 24 a0).toInt := congrArg Int32.toInt (u639 12 24 a0 (by decide))
            refine ok_ite (fun h681 => ?_) (fun h681 => ?_)
            · have c682 : r661.1.toInt = (q_I r661.2 12 24 a0).toInt := o_eq h681
              obtain ⟨b683, o684, k685, n686⟩ := gO_12_28 L k_a0
              obtain rfl := gS_12_28 L k_a0 o684
              refine ok_at o684 ?_
              have t687 := ti_tn (q_I r661.2 12 24 a0)
              refine ok_gd (fun hc688 => ?_) ?_
              · rcases hc688 with hc688 | hc688
                · have c689 : (q_I r661.2 12 24 a0).toInt < (0 : Int) := o_lt hc688
                  omega
                · omega
              have f693 := cb_12_25 i663 k_a0
              have f694 : (q_I r661.2 12 25 a0).toInt = (q_I r604 12 25 a0).toInt := congrArg Int32.toInt (u665 12 25 a0 (by decide))
              have f695 := cb_12_25 i632 k_a0
              refine ok_bdv (fun d690 e691 => ?_)
              have i692 : RI ad h.1 δ0 d690 := by rw [e691]; exact cr_112 L i663 (show 0 ≤ (q_I r661.2 12 25 a0).toInt by omega) (show (q_I r661.2 12 25 a0).toInt ≤ 60 by omega)
              have u696 := kp_N u669 (show q_I d690 = q_I r661.2 by rw [e691]; rfl)
              have v697 : q_V d690 = q_V δ := ((show q_V d690 = q_V r661.2 by rw [e691]; rfl)).trans v670
              have v698 := kr_s L (by decide) v671 e691
              have f702 := cb_12_24 i692 k_a0
              have f703 : (q_I d690 12 24 a0).toInt = (q_I r661.2 12 24 a0).toInt := congrArg Int32.toInt (by rw [e691]; rfl)
              first | (have q705 := te_addc (c := 1) (n := 1) rfl (q_I d690 12 24 a0) (by omega) (by omega); obtain ⟨f706, f707, f708⟩ := q705) | (obtain ⟨q705, f706, f707, f708⟩ := ti_addc (c := 1) (n := 1) rfl (q_I d690 12 24 a0))
              refine ok_bdv (fun d699 e700 => ?_)
              have i701 : RI ad h.1 δ0 d699 := by rw [e700]; exact cs_12_24 L i692 k_a0 (show 0 ≤ ((q_I d690 12 24 a0) + (1 : Int32)).toInt by omega) (show ((q_I d690 12 24 a0) + (1 : Int32)).toInt ≤ 4 by omega)
              have u709 := kp_I u696 e700
              have v710 : q_V d699 = q_V δ := ((show q_V d699 = q_V d690 by rw [e700]; rfl)).trans v697
              have v711 := kr_N v698 (show q_R d699 = q_R d690 by rw [e700]; rfl)
              unfold J_X12_thief_146
              have ss712 : NS ad a0 δ d1 := NS.t NS.r (NS.w e2 (by decide))
              have ss713 : NS0 ad a0 δ r10.2 := NS0.t (NS.z ss712) (NS.z ns27)
              have ss714 : NS0 ad a0 δ r43 := NS0.t ss713 ns63
              have ns716 : NS ad a0 d90 r96.2 := NS.t NS.r ns125
              have ns717 : NS ad a0 r604 r661.2 := NS.t NS.r ns674
              have f718 := cb_12_26 i663 k_a0
              have f719 : (q_I r661.2 12 26 a0).toInt = (q_I r604 12 26 a0).toInt := congrArg Int32.toInt (u665 12 26 a0 (by decide))
              have ss715 : TK ad a0 δ d699 := TK.good L ss714 e79 e85 e91 ns716 p638 (u641 112 (by decide) (by decide) (by decide)) ns717 (show (0 : Int) = 0 by omega) (show (0 : Int) = 0 by omega) (show (0 : Int) = 0 by omega) (by omega) e691 e700 (show (((q_I r661.2 12 24 a0).toNatClampNeg : Nat) : Int) = (q_I δ 12 24 a0).toInt by omega) (show (q_I r661.2 12 25 a0).toInt = (q_I r661.2 12 25 a0).toInt by omega) (show ((q_I d690 12 24 a0) + (1 : Int32)).toInt = (q_I δ 12 24 a0).toInt + 1 by omega) (show (q_I r661.2 12 5 a0).toInt = -1 by omega) (show (q_I r661.2 12 26 a0).toInt ≤ 500 by omega)
              have f720 := cb_12_2 I k_a0
              have f721 := cb_12_2 i701 k_a0
              have f722 : (q_I d699 12 2 a0).toInt = (q_I d690 12 2 a0).toInt := congrArg Int32.toInt (by rw [e700]; exact rI_o (by decide))
              have f723 := cb_12_2 i692 k_a0
              have f724 : (q_I d690 12 2 a0).toInt = (q_I r661.2 12 2 a0).toInt := congrArg Int32.toInt (by rw [e691]; rfl)
              have f725 := cb_12_2 i663 k_a0
              have f726 : (q_I r661.2 12 2 a0).toInt = (q_I r604 12 2 a0).toInt := congrArg Int32.toInt (u665 12 2 a0 (by decide))
              have f727 := cb_12_2 i632 k_a0
              have f728 : (q_I r604 12 2 a0).toInt = (q_I r96.2 12 2 a0).toInt := congrArg Int32.toInt (u639 12 2 a0 (by decide))
              have f729 := cb_12_2 i98 k_a0
              have f730 : (q_I r96.2 12 2 a0).toInt = (q_I d90 12 2 a0).toInt := congrArg Int32.toInt (u102 12 2 a0 (by decide))
              have f731 := cb_12_2 i92 k_a0
              have f732 : (q_I d90 12 2 a0).toInt = (q_I d84 12 2 a0).toInt := congrArg Int32.toInt (by rw [e91]; exact rI_o (by decide))
              have f733 := cb_12_2 i86 k_a0
              have f734 : (q_I d84 12 2 a0).toInt = (q_I d78 12 2 a0).toInt := congrArg Int32.toInt (by rw [e85]; exact rI_o (by decide))
              have f735 := cb_12_2 i80 k_a0
              have f736 : (q_I d78 12 2 a0).toInt = (q_I r43 12 2 a0).toInt := congrArg Int32.toInt (by rw [e79]; exact rI_o (by decide))
              exact ok_some (show RI ad h.1 δ0 d699 ∧ (kp [(12, 0), (12, 2), (12, 3), (12, 4), (12, 5), (12, 6), (12, 7), (12, 8), (12, 24), (12, 25), (12, 26), (12, 27)] δ d699 ∧ q_V d699 = q_V δ ∧ kr ad [100, 112, 113, 114, 115, 116, 117] δ d699) ∧ TK ad a0 δ d699 ∧ (0 ≤ (x1).toInt ∧ (x1).toInt ≤ (q_I δ 12 2 a0).toInt → (q_I d699 12 2 a0).toInt = 0) ∧ ((x1).toInt < 0 ∨ (q_I δ 12 2 a0).toInt < (x1).toInt → (q_I d699 12 2 a0).toInt = (q_I δ 12 2 a0).toInt) from ⟨i701, ⟨kp_w (by decide) u709, v710, kr_w (by decide) v711⟩, ss715, by first | assumption | omega, by first | assumption | omega⟩)
            · have c737 : r661.1.toInt ≠ (q_I r661.2 12 24 a0).toInt := o_ne h681
              unfold J_X12_thief_146
              have ss738 : NS ad a0 δ d1 := NS.t NS.r (NS.w e2 (by decide))
              have ss739 : NS0 ad a0 δ r10.2 := NS0.t (NS.z ss738) (NS.z ns27)
              have ss740 : NS0 ad a0 δ r43 := NS0.t ss739 ns63
              have ns742 : NS ad a0 d90 r96.2 := NS.t NS.r ns125
              have ns743 : NS ad a0 r604 r661.2 := NS.t NS.r ns674
              have ss741 : TK ad a0 δ r661.2 := TK.bad L ss740 e79 e85 e91 ns742 p638 (u641 112 (by decide) (by decide) (by decide)) ns743 (show (0 : Int) = 0 by omega) (show (0 : Int) = 0 by omega) (show (0 : Int) = 0 by omega) (by omega)
              have f744 := cb_12_2 I k_a0
              have f745 := cb_12_2 i663 k_a0
              have f746 : (q_I r661.2 12 2 a0).toInt = (q_I r604 12 2 a0).toInt := congrArg Int32.toInt (u665 12 2 a0 (by decide))
              have f747 := cb_12_2 i632 k_a0
              have f748 : (q_I r604 12 2 a0).toInt = (q_I r96.2 12 2 a0).toInt := congrArg Int32.toInt (u639 12 2 a0 (by decide))
              have f749 := cb_12_2 i98 k_a0
              have f750 : (q_I r96.2 12 2 a0).toInt = (q_I d90 12 2 a0).toInt := congrArg Int32.toInt (u102 12 2 a0 (by decide))
              have f751 := cb_12_2 i92 k_a0
              have f752 : (q_I d90 12 2 a0).toInt = (q_I d84 12 2 a0).toInt := congrArg Int32.toInt (by rw [e91]; exact rI_o (by decide))
              have f753 := cb_12_2 i86 k_a0
              have f754 : (q_I d84 12 2 a0).toInt = (q_I d78 12 2 a0).toInt := congrArg Int32.toInt (by rw [e85]; exact rI_o (by decide))
              have f755 := cb_12_2 i80 k_a0
              have f756 : (q_I d78 12 2 a0).toInt = (q_I r43 12 2 a0).toInt := congrArg Int32.toInt (by rw [e79]; exact rI_o (by decide))
              exact ok_some (show RI ad h.1 δ0 r661.2 ∧ (kp [(12, 0), (12, 2), (12, 3), (12, 4), (12, 5), (12, 6), (12, 7), (12, 8), (12, 24), (12, 25), (12, 26), (12, 27)] δ r661.2 ∧ q_V r661.2 = q_V δ ∧ kr ad [100, 112, 113, 114, 115, 116, 117] δ r661.2) ∧ TK ad a0 δ r661.2 ∧ (0 ≤ (x1).toInt ∧ (x1).toInt ≤ (q_I δ 12 2 a0).toInt → (q_I r661.2 12 2 a0).toInt = 0) ∧ ((x1).toInt < 0 ∨ (q_I δ 12 2 a0).toInt < (x1).toInt → (q_I r661.2 12 2 a0).toInt = (q_I δ 12 2 a0).toInt) from ⟨i663, ⟨kp_w (by decide) u669, v670, kr_w (by decide) v671⟩, ss741, by first | assumption | omega, by first | assumption | omega⟩)
          · have c757 : r650.1.toInt ≠ (0 : Int) := o_ne h659
            refine ok_bind (k_X12_isMore L hN (a0 := a0) k_a0 i632) (fun r758 hr759 => ?_)
            obtain ⟨i760, ⟨u764, u765, u766, u767⟩, p761, p762, p763⟩ := hr759
            have u768 := kp_t u642 u764
            have v769 : q_V r758.2 = q_V δ := (u765).trans v643
            have v770 := kr_t v644 u767
            have f771 := bo_l p761
            have f772 := cb_12_4 i760 k_a0
            have f773 := ti_b r758.1
            have f774 := cb_12_3 i632 k_a0
            have f775 : (q_I r604 12 3 a0).toInt = (q_I r96.2 12 3 a0).toInt := congrArg Int32.toInt (u639 12 3 a0 (by decide))
            have f776 := cb_12_3 i98 k_a0
            have f777 : (q_I r96.2 12 3 a0).toInt = (q_I d90 12 3 a0).toInt := congrArg Int32.toInt (u102 12 3 a0 (by decide))
            have f778 := ti_b r758.1
            have f780 := cb_12_5 i760 k_a0
            have f781 : (q_I r758.2 12 5 a0).toInt = (q_I r604 12 5 a0).toInt := congrArg Int32.toInt (u764 12 5 a0 (by decide))
            have ns779 : NS ad a0 r604 r758.2 := ⟨u767 112 (by decide) (by decide) (by decide), u767 113 (by decide) (by decide) (by decide), u767 114 (by decide) (by decide) (by decide), u767 115 (by decide) (by decide) (by decide), u767 116 (by decide) (by decide) (by decide), u764 12 24 _ (by decide), u764 12 25 _ (by decide), u764 12 26 _ (by decide), u764 12 27 _ (by decide), fun z => by omega⟩
            refine ok_ite (fun h782 => ?_) (fun h782 => ?_)
            · have c783 : r758.1.toInt = (0 : Int) := o_eq h782
              unfold J_X12_thief_106
              refine ok_bind (k_X12_result L hN (a0 := a0) (x1 := (q_I r758.2 12 24 a0)) k_a0 i760) (fun r784 hr785 => ?_)
              obtain ⟨i786, ⟨u788, u789, u790, u791⟩, p787⟩ := hr785
              have u792 := kp_t u768 u788
              have v793 : q_V r784.2 = q_V δ := (u789).trans v769
              have v794 := kr_t v770 u791
              have f795 := ti_b r784.1
              have f796 := ti_b r784.1
              have f798 := cb_12_5 i786 k_a0
              have f799 : (q_I r784.2 12 5 a0).toInt = (q_I r758.2 12 5 a0).toInt := congrArg Int32.toInt (u788 12 5 a0 (by decide))
              have ns797 : NS ad a0 r758.2 r784.2 := ⟨u791 112 (by decide) (by decide) (by decide), u791 113 (by decide) (by decide) (by decide), u791 114 (by decide) (by decide) (by decide), u791 115 (by decide) (by decide) (by decide), u791 116 (by decide) (by decide) (by decide), u788 12 24 _ (by decide), u788 12 25 _ (by decide), u788 12 26 _ (by decide), u788 12 27 _ (by decide), fun z => by omega⟩
              have f800 := cb_12_24 i786 k_a0
              have f801 : (q_I r784.2 12 24 a0).toInt = (q_I r758.2 12 24 a0).toInt := congrArg Int32.toInt (u788 12 24 a0 (by decide))
              have f802 := cb_12_24 i760 k_a0
              have f803 : (q_I r758.2 12 24 a0).toInt = (q_I r604 12 24 a0).toInt := congrArg Int32.toInt (u764 12 24 a0 (by decide))
              have f804 := cb_12_24 i632 k_a0
              have f805 : (q_I r604 12 24 a0).toInt = (q_I r96.2 12 24 a0).toInt := congrArg Int32.toInt (u639 12 24 a0 (by decide))
              refine ok_ite (fun h806 => ?_) (fun h806 => ?_)
              · have c807 : r784.1.toInt = (q_I r784.2 12 24 a0).toInt := o_eq h806
                obtain ⟨b808, o809, k810, n811⟩ := gO_12_28 L k_a0
                obtain rfl := gS_12_28 L k_a0 o809
                refine ok_at o809 ?_
                have t812 := ti_tn (q_I r784.2 12 24 a0)
                refine ok_gd (fun hc813 => ?_) ?_
                · rcases hc813 with hc813 | hc813
                  · have c814 : (q_I r784.2 12 24 a0).toInt < (0 : Int) := o_lt hc813
                    omega
                  · omega
                have f818 := cb_12_25 i786 k_a0
                have f819 : (q_I r784.2 12 25 a0).toInt = (q_I r758.2 12 25 a0).toInt := congrArg Int32.toInt (u788 12 25 a0 (by decide))
                have f820 := cb_12_25 i760 k_a0
                have f821 : (q_I r758.2 12 25 a0).toInt = (q_I r604 12 25 a0).toInt := congrArg Int32.toInt (u764 12 25 a0 (by decide))
                have f822 := cb_12_25 i632 k_a0
                refine ok_bdv (fun d815 e816 => ?_)
                have i817 : RI ad h.1 δ0 d815 := by rw [e816]; exact cr_112 L i786 (show 0 ≤ (q_I r784.2 12 25 a0).toInt by omega) (show (q_I r784.2 12 25 a0).toInt ≤ 60 by omega)
                have u823 := kp_N u792 (show q_I d815 = q_I r784.2 by rw [e816]; rfl)
                have v824 : q_V d815 = q_V δ := ((show q_V d815 = q_V r784.2 by rw [e816]; rfl)).trans v793
                have v825 := kr_s L (by decide) v794 e816
                have f829 := cb_12_24 i817 k_a0
                have f830 : (q_I d815 12 24 a0).toInt = (q_I r784.2 12 24 a0).toInt := congrArg Int32.toInt (by rw [e816]; rfl)
                first | (have q832 := te_addc (c := 1) (n := 1) rfl (q_I d815 12 24 a0) (by omega) (by omega); obtain ⟨f833, f834, f835⟩ := q832) | (obtain ⟨q832, f833, f834, f835⟩ := ti_addc (c := 1) (n := 1) rfl (q_I d815 12 24 a0))
                refine ok_bdv (fun d826 e827 => ?_)
                have i828 : RI ad h.1 δ0 d826 := by rw [e827]; exact cs_12_24 L i817 k_a0 (show 0 ≤ ((q_I d815 12 24 a0) + (1 : Int32)).toInt by omega) (show ((q_I d815 12 24 a0) + (1 : Int32)).toInt ≤ 4 by omega)
                have u836 := kp_I u823 e827
                have v837 : q_V d826 = q_V δ := ((show q_V d826 = q_V d815 by rw [e827]; rfl)).trans v824
                have v838 := kr_N v825 (show q_R d826 = q_R d815 by rw [e827]; rfl)
                unfold J_X12_thief_146
                have ss839 : NS ad a0 δ d1 := NS.t NS.r (NS.w e2 (by decide))
                have ss840 : NS0 ad a0 δ r10.2 := NS0.t (NS.z ss839) (NS.z ns27)
                have ss841 : NS0 ad a0 δ r43 := NS0.t ss840 ns63
                have ns843 : NS ad a0 d90 r96.2 := NS.t NS.r ns125
                have ns844 : NS ad a0 r604 r758.2 := NS.t NS.r ns779
                have ns845 : NS ad a0 r604 r784.2 := NS.t ns844 ns797
                have f846 := cb_12_26 i786 k_a0
                have f847 : (q_I r784.2 12 26 a0).toInt = (q_I r758.2 12 26 a0).toInt := congrArg Int32.toInt (u788 12 26 a0 (by decide))
                have f848 := cb_12_26 i760 k_a0
                have f849 : (q_I r758.2 12 26 a0).toInt = (q_I r604 12 26 a0).toInt := congrArg Int32.toInt (u764 12 26 a0 (by decide))
                have ss842 : TK ad a0 δ d826 := TK.good L ss841 e79 e85 e91 ns843 p638 (u641 112 (by decide) (by decide) (by decide)) ns845 (show (0 : Int) = 0 by omega) (show (0 : Int) = 0 by omega) (show (0 : Int) = 0 by omega) (by omega) e816 e827 (show (((q_I r784.2 12 24 a0).toNatClampNeg : Nat) : Int) = (q_I δ 12 24 a0).toInt by omega) (show (q_I r784.2 12 25 a0).toInt = (q_I r784.2 12 25 a0).toInt by omega) (show ((q_I d815 12 24 a0) + (1 : Int32)).toInt = (q_I δ 12 24 a0).toInt + 1 by omega) (show (q_I r784.2 12 5 a0).toInt = -1 by omega) (show (q_I r784.2 12 26 a0).toInt ≤ 500 by omega)
                have f850 := cb_12_2 I k_a0
                have f851 := cb_12_2 i828 k_a0
                have f852 : (q_I d826 12 2 a0).toInt = (q_I d815 12 2 a0).toInt := congrArg Int32.toInt (by rw [e827]; exact rI_o (by decide))
                have f853 := cb_12_2 i817 k_a0
                have f854 : (q_I d815 12 2 a0).toInt = (q_I r784.2 12 2 a0).toInt := congrArg Int32.toInt (by rw [e816]; rfl)
                have f855 := cb_12_2 i786 k_a0
                have f856 : (q_I r784.2 12 2 a0).toInt = (q_I r758.2 12 2 a0).toInt := congrArg Int32.toInt (u788 12 2 a0 (by decide))
                have f857 := cb_12_2 i760 k_a0
                have f858 : (q_I r758.2 12 2 a0).toInt = (q_I r604 12 2 a0).toInt := congrArg Int32.toInt (u764 12 2 a0 (by decide))
                have f859 := cb_12_2 i632 k_a0
                have f860 : (q_I r604 12 2 a0).toInt = (q_I r96.2 12 2 a0).toInt := congrArg Int32.toInt (u639 12 2 a0 (by decide))
                have f861 := cb_12_2 i98 k_a0
                have f862 : (q_I r96.2 12 2 a0).toInt = (q_I d90 12 2 a0).toInt := congrArg Int32.toInt (u102 12 2 a0 (by decide))
                have f863 := cb_12_2 i92 k_a0
                have f864 : (q_I d90 12 2 a0).toInt = (q_I d84 12 2 a0).toInt := congrArg Int32.toInt (by rw [e91]; exact rI_o (by decide))
                have f865 := cb_12_2 i86 k_a0
                have f866 : (q_I d84 12 2 a0).toInt = (q_I d78 12 2 a0).toInt := congrArg Int32.toInt (by rw [e85]; exact rI_o (by decide))
                have f867 := cb_12_2 i80 k_a0
                have f868 : (q_I d78 12 2 a0).toInt = (q_I r43 12 2 a0).toInt := congrArg Int32.toInt (by rw [e79]; exact rI_o (by decide))
                exact ok_some (show RI ad h.1 δ0 d826 ∧ (kp [(12, 0), (12, 2), (12, 3), (12, 4), (12, 5), (12, 6), (12, 7), (12, 8), (12, 24), (12, 25), (12, 26), (12, 27)] δ d826 ∧ q_V d826 = q_V δ ∧ kr ad [100, 112, 113, 114, 115, 116, 117] δ d826) ∧ TK ad a0 δ d826 ∧ (0 ≤ (x1).toInt ∧ (x1).toInt ≤ (q_I δ 12 2 a0).toInt → (q_I d826 12 2 a0).toInt = 0) ∧ ((x1).toInt < 0 ∨ (q_I δ 12 2 a0).toInt < (x1).toInt → (q_I d826 12 2 a0).toInt = (q_I δ 12 2 a0).toInt) from ⟨i828, ⟨kp_w (by decide) u836, v837, kr_w (by decide) v838⟩, ss842, by first | assumption | omega, by first | assumption | omega⟩)
              · have c869 : r784.1.toInt ≠ (q_I r784.2 12 24 a0).toInt := o_ne h806
                unfold J_X12_thief_146
                have ss870 : NS ad a0 δ d1 := NS.t NS.r (NS.w e2 (by decide))
                have ss871 : NS0 ad a0 δ r10.2 := NS0.t (NS.z ss870) (NS.z ns27)
                have ss872 : NS0 ad a0 δ r43 := NS0.t ss871 ns63
                have ns874 : NS ad a0 d90 r96.2 := NS.t NS.r ns125
                have ns875 : NS ad a0 r604 r758.2 := NS.t NS.r ns779
                have ns876 : NS ad a0 r604 r784.2 := NS.t ns875 ns797
                have ss873 : TK ad a0 δ r784.2 := TK.bad L ss872 e79 e85 e91 ns874 p638 (u641 112 (by decide) (by decide) (by decide)) ns876 (show (0 : Int) = 0 by omega) (show (0 : Int) = 0 by omega) (show (0 : Int) = 0 by omega) (by omega)
                have f877 := cb_12_2 I k_a0
                have f878 := cb_12_2 i786 k_a0
                have f879 : (q_I r784.2 12 2 a0).toInt = (q_I r758.2 12 2 a0).toInt := congrArg Int32.toInt (u788 12 2 a0 (by decide))
                have f880 := cb_12_2 i760 k_a0
                have f881 : (q_I r758.2 12 2 a0).toInt = (q_I r604 12 2 a0).toInt := congrArg Int32.toInt (u764 12 2 a0 (by decide))
                have f882 := cb_12_2 i632 k_a0
                have f883 : (q_I r604 12 2 a0).toInt = (q_I r96.2 12 2 a0).toInt := congrArg Int32.toInt (u639 12 2 a0 (by decide))
                have f884 := cb_12_2 i98 k_a0
                have f885 : (q_I r96.2 12 2 a0).toInt = (q_I d90 12 2 a0).toInt := congrArg Int32.toInt (u102 12 2 a0 (by decide))
                have f886 := cb_12_2 i92 k_a0
                have f887 : (q_I d90 12 2 a0).toInt = (q_I d84 12 2 a0).toInt := congrArg Int32.toInt (by rw [e91]; exact rI_o (by decide))
                have f888 := cb_12_2 i86 k_a0
                have f889 : (q_I d84 12 2 a0).toInt = (q_I d78 12 2 a0).toInt := congrArg Int32.toInt (by rw [e85]; exact rI_o (by decide))
                have f890 := cb_12_2 i80 k_a0
                have f891 : (q_I d78 12 2 a0).toInt = (q_I r43 12 2 a0).toInt := congrArg Int32.toInt (by rw [e79]; exact rI_o (by decide))
                exact ok_some (show RI ad h.1 δ0 r784.2 ∧ (kp [(12, 0), (12, 2), (12, 3), (12, 4), (12, 5), (12, 6), (12, 7), (12, 8), (12, 24), (12, 25), (12, 26), (12, 27)] δ r784.2 ∧ q_V r784.2 = q_V δ ∧ kr ad [100, 112, 113, 114, 115, 116, 117] δ r784.2) ∧ TK ad a0 δ r784.2 ∧ (0 ≤ (x1).toInt ∧ (x1).toInt ≤ (q_I δ 12 2 a0).toInt → (q_I r784.2 12 2 a0).toInt = 0) ∧ ((x1).toInt < 0 ∨ (q_I δ 12 2 a0).toInt < (x1).toInt → (q_I r784.2 12 2 a0).toInt = (q_I δ 12 2 a0).toInt) from ⟨i786, ⟨kp_w (by decide) u792, v793, kr_w (by decide) v794⟩, ss873, by first | assumption | omega, by first | assumption | omega⟩)
            · have c892 : r758.1.toInt ≠ (0 : Int) := o_ne h782
              refine ok_bind (k_X12_wrong L hN (a0 := a0) (x1 := (1 : Int32)) (x2 := (q_I r758.2 12 4 a0)) k_a0 (show 0 ≤ ((q_I r758.2 12 4 a0)).toInt by first | assumption | omega) (show ((q_I r758.2 12 4 a0)).toInt ≤ 500 by first | assumption | omega) (show 0 ≤ (1 : Int) by first | assumption | omega) (show (1 : Int) ≤ 4 by first | assumption | omega) i760) (fun r893 hr894 => ?_)
              obtain ⟨i895, ⟨u898, u899, u900, u901⟩, p896, p897⟩ := hr894
              have u902 := kp_t u768 u898
              have v903 : q_V r893 = q_V δ := (u899).trans v769
              have v904 := kr_t v770 u901
              have f905 := cb_12_5 i895 k_a0
              have ns906 : NS ad a0 r758.2 r893 := ⟨u901 112 (by decide) (by decide) (by decide), u901 113 (by decide) (by decide) (by decide), u901 114 (by decide) (by decide) (by decide), u901 115 (by decide) (by decide) (by decide), u901 116 (by decide) (by decide) (by decide), u898 12 24 _ (by decide), u898 12 25 _ (by decide), u898 12 26 _ (by decide), u898 12 27 _ (by decide), fun z => by omega⟩
              unfold J_X12_thief_106
              refine ok_bind (k_X12_result L hN (a0 := a0) (x1 := (q_I r893 12 24 a0)) k_a0 i895) (fun r907 hr908 => ?_)
              obtain ⟨i909, ⟨u911, u912, u913, u914⟩, p910⟩ := hr908
              have u915 := kp_t u902 u911
              have v916 : q_V r907.2 = q_V δ := (u912).trans v903
              have v917 := kr_t v904 u914
              have f918 := ti_b r907.1
              have f919 := ti_b r907.1
              have f921 := cb_12_5 i909 k_a0
              have f922 : (q_I r907.2 12 5 a0).toInt = (q_I r893 12 5 a0).toInt := congrArg Int32.toInt (u911 12 5 a0 (by decide))
              have ns920 : NS ad a0 r893 r907.2 := ⟨u914 112 (by decide) (by decide) (by decide), u914 113 (by decide) (by decide) (by decide), u914 114 (by decide) (by decide) (by decide), u914 115 (by decide) (by decide) (by decide), u914 116 (by decide) (by decide) (by decide), u911 12 24 _ (by decide), u911 12 25 _ (by decide), u911 12 26 _ (by decide), u911 12 27 _ (by decide), fun z => by omega⟩
              have f923 := cb_12_24 i909 k_a0
              have f924 : (q_I r907.2 12 24 a0).toInt = (q_I r893 12 24 a0).toInt := congrArg Int32.toInt (u911 12 24 a0 (by decide))
              have f925 := cb_12_24 i895 k_a0
              have f926 : (q_I r893 12 24 a0).toInt = (q_I r758.2 12 24 a0).toInt := congrArg Int32.toInt (u898 12 24 a0 (by decide))
              have f927 := cb_12_24 i760 k_a0
              have f928 : (q_I r758.2 12 24 a0).toInt = (q_I r604 12 24 a0).toInt := congrArg Int32.toInt (u764 12 24 a0 (by decide))
              have f929 := cb_12_24 i632 k_a0
              have f930 : (q_I r604 12 24 a0).toInt = (q_I r96.2 12 24 a0).toInt := congrArg Int32.toInt (u639 12 24 a0 (by decide))
              refine ok_ite (fun h931 => ?_) (fun h931 => ?_)
              · have c932 : r907.1.toInt = (q_I r907.2 12 24 a0).toInt := o_eq h931
                obtain ⟨b933, o934, k935, n936⟩ := gO_12_28 L k_a0
                obtain rfl := gS_12_28 L k_a0 o934
                refine ok_at o934 ?_
                have t937 := ti_tn (q_I r907.2 12 24 a0)
                refine ok_gd (fun hc938 => ?_) ?_
                · rcases hc938 with hc938 | hc938
                  · have c939 : (q_I r907.2 12 24 a0).toInt < (0 : Int) := o_lt hc938
                    omega
                  · omega
                have f943 := cb_12_25 i909 k_a0
                have f944 : (q_I r907.2 12 25 a0).toInt = (q_I r893 12 25 a0).toInt := congrArg Int32.toInt (u911 12 25 a0 (by decide))
                have f945 := cb_12_25 i895 k_a0
                have f946 : (q_I r893 12 25 a0).toInt = (q_I r758.2 12 25 a0).toInt := congrArg Int32.toInt (u898 12 25 a0 (by decide))
                have f947 := cb_12_25 i760 k_a0
                have f948 : (q_I r758.2 12 25 a0).toInt = (q_I r604 12 25 a0).toInt := congrArg Int32.toInt (u764 12 25 a0 (by decide))
                have f949 := cb_12_25 i632 k_a0
                refine ok_bdv (fun d940 e941 => ?_)
                have i942 : RI ad h.1 δ0 d940 := by rw [e941]; exact cr_112 L i909 (show 0 ≤ (q_I r907.2 12 25 a0).toInt by omega) (show (q_I r907.2 12 25 a0).toInt ≤ 60 by omega)
                have u950 := kp_N u915 (show q_I d940 = q_I r907.2 by rw [e941]; rfl)
                have v951 : q_V d940 = q_V δ := ((show q_V d940 = q_V r907.2 by rw [e941]; rfl)).trans v916
                have v952 := kr_s L (by decide) v917 e941
                have f956 := cb_12_24 i942 k_a0
                have f957 : (q_I d940 12 24 a0).toInt = (q_I r907.2 12 24 a0).toInt := congrArg Int32.toInt (by rw [e941]; rfl)
                first | (have q959 := te_addc (c := 1) (n := 1) rfl (q_I d940 12 24 a0) (by omega) (by omega); obtain ⟨f960, f961, f962⟩ := q959) | (obtain ⟨q959, f960, f961, f962⟩ := ti_addc (c := 1) (n := 1) rfl (q_I d940 12 24 a0))
                refine ok_bdv (fun d953 e954 => ?_)
                have i955 : RI ad h.1 δ0 d953 := by rw [e954]; exact cs_12_24 L i942 k_a0 (show 0 ≤ ((q_I d940 12 24 a0) + (1 : Int32)).toInt by omega) (show ((q_I d940 12 24 a0) + (1 : Int32)).toInt ≤ 4 by omega)
                have u963 := kp_I u950 e954
                have v964 : q_V d953 = q_V δ := ((show q_V d953 = q_V d940 by rw [e954]; rfl)).trans v951
                have v965 := kr_N v952 (show q_R d953 = q_R d940 by rw [e954]; rfl)
                unfold J_X12_thief_146
                have ss966 : NS ad a0 δ d1 := NS.t NS.r (NS.w e2 (by decide))
                have ss967 : NS0 ad a0 δ r10.2 := NS0.t (NS.z ss966) (NS.z ns27)
                have ss968 : NS0 ad a0 δ r43 := NS0.t ss967 ns63
                have ns970 : NS ad a0 d90 r96.2 := NS.t NS.r ns125
                have ns971 : NS ad a0 r604 r758.2 := NS.t NS.r ns779
                have ns972 : NS ad a0 r604 r893 := NS.t ns971 ns906
                have ns973 : NS ad a0 r604 r907.2 := NS.t ns972 ns920
                have f974 := cb_12_26 i909 k_a0
                have f975 : (q_I r907.2 12 26 a0).toInt = (q_I r893 12 26 a0).toInt := congrArg Int32.toInt (u911 12 26 a0 (by decide))
                have f976 := cb_12_26 i895 k_a0
                have f977 : (q_I r893 12 26 a0).toInt = (q_I r758.2 12 26 a0).toInt := congrArg Int32.toInt (u898 12 26 a0 (by decide))
                have f978 := cb_12_26 i760 k_a0
                have f979 : (q_I r758.2 12 26 a0).toInt = (q_I r604 12 26 a0).toInt := congrArg Int32.toInt (u764 12 26 a0 (by decide))
                have ss969 : TK ad a0 δ d953 := TK.good L ss968 e79 e85 e91 ns970 p638 (u641 112 (by decide) (by decide) (by decide)) ns973 (show (0 : Int) = 0 by omega) (show (0 : Int) = 0 by omega) (show (0 : Int) = 0 by omega) (by omega) e941 e954 (show (((q_I r907.2 12 24 a0).toNatClampNeg : Nat) : Int) = (q_I δ 12 24 a0).toInt by omega) (show (q_I r907.2 12 25 a0).toInt = (q_I r907.2 12 25 a0).toInt by omega) (show ((q_I d940 12 24 a0) + (1 : Int32)).toInt = (q_I δ 12 24 a0).toInt + 1 by omega) (show (q_I r907.2 12 5 a0).toInt = -1 by omega) (show (q_I r907.2 12 26 a0).toInt ≤ 500 by omega)
                have f980 := cb_12_2 I k_a0
                have f981 := cb_12_2 i955 k_a0
                have f982 : (q_I d953 12 2 a0).toInt = (q_I d940 12 2 a0).toInt := congrArg Int32.toInt (by rw [e954]; exact rI_o (by decide))
                have f983 := cb_12_2 i942 k_a0
                have f984 : (q_I d940 12 2 a0).toInt = (q_I r907.2 12 2 a0).toInt := congrArg Int32.toInt (by rw [e941]; rfl)
                have f985 := cb_12_2 i909 k_a0
                have f986 : (q_I r907.2 12 2 a0).toInt = (q_I r893 12 2 a0).toInt := congrArg Int32.toInt (u911 12 2 a0 (by decide))
                have f987 := cb_12_2 i895 k_a0
                have f988 : (q_I r893 12 2 a0).toInt = (q_I r758.2 12 2 a0).toInt := congrArg Int32.toInt (u898 12 2 a0 (by decide))
                have f989 := cb_12_2 i760 k_a0
                have f990 : (q_I r758.2 12 2 a0).toInt = (q_I r604 12 2 a0).toInt := congrArg Int32.toInt (u764 12 2 a0 (by decide))
                have f991 := cb_12_2 i632 k_a0
                have f992 : (q_I r604 12 2 a0).toInt = (q_I r96.2 12 2 a0).toInt := congrArg Int32.toInt (u639 12 2 a0 (by decide))
                have f993 := cb_12_2 i98 k_a0
                have f994 : (q_I r96.2 12 2 a0).toInt = (q_I d90 12 2 a0).toInt := congrArg Int32.toInt (u102 12 2 a0 (by decide))
                have f995 := cb_12_2 i92 k_a0
                have f996 : (q_I d90 12 2 a0).toInt = (q_I d84 12 2 a0).toInt := congrArg Int32.toInt (by rw [e91]; exact rI_o (by decide))
                have f997 := cb_12_2 i86 k_a0
                have f998 : (q_I d84 12 2 a0).toInt = (q_I d78 12 2 a0).toInt := congrArg Int32.toInt (by rw [e85]; exact rI_o (by decide))
                have f999 := cb_12_2 i80 k_a0
                have f1000 : (q_I d78 12 2 a0).toInt = (q_I r43 12 2 a0).toInt := congrArg Int32.toInt (by rw [e79]; exact rI_o (by decide))
                exact ok_some (show RI ad h.1 δ0 d953 ∧ (kp [(12, 0), (12, 2), (12, 3), (12, 4), (12, 5), (12, 6), (12, 7), (12, 8), (12, 24), (12, 25), (12, 26), (12, 27)] δ d953 ∧ q_V d953 = q_V δ ∧ kr ad [100, 112, 113, 114, 115, 116, 117] δ d953) ∧ TK ad a0 δ d953 ∧ (0 ≤ (x1).toInt ∧ (x1).toInt ≤ (q_I δ 12 2 a0).toInt → (q_I d953 12 2 a0).toInt = 0) ∧ ((x1).toInt < 0 ∨ (q_I δ 12 2 a0).toInt < (x1).toInt → (q_I d953 12 2 a0).toInt = (q_I δ 12 2 a0).toInt) from ⟨i955, ⟨kp_w (by decide) u963, v964, kr_w (by decide) v965⟩, ss969, by first | assumption | omega, by first | assumption | omega⟩)
              · have c1001 : r907.1.toInt ≠ (q_I r907.2 12 24 a0).toInt := o_ne h931
                unfold J_X12_thief_146
                have ss1002 : NS ad a0 δ d1 := NS.t NS.r (NS.w e2 (by decide))
                have ss1003 : NS0 ad a0 δ r10.2 := NS0.t (NS.z ss1002) (NS.z ns27)
                have ss1004 : NS0 ad a0 δ r43 := NS0.t ss1003 ns63
                have ns1006 : NS ad a0 d90 r96.2 := NS.t NS.r ns125
                have ns1007 : NS ad a0 r604 r758.2 := NS.t NS.r ns779
                have ns1008 : NS ad a0 r604 r893 := NS.t ns1007 ns906
                have ns1009 : NS ad a0 r604 r907.2 := NS.t ns1008 ns920
                have ss1005 : TK ad a0 δ r907.2 := TK.bad L ss1004 e79 e85 e91 ns1006 p638 (u641 112 (by decide) (by decide) (by decide)) ns1009 (show (0 : Int) = 0 by omega) (show (0 : Int) = 0 by omega) (show (0 : Int) = 0 by omega) (by omega)
                have f1010 := cb_12_2 I k_a0
                have f1011 := cb_12_2 i909 k_a0
                have f1012 : (q_I r907.2 12 2 a0).toInt = (q_I r893 12 2 a0).toInt := congrArg Int32.toInt (u911 12 2 a0 (by decide))
                have f1013 := cb_12_2 i895 k_a0
                have f1014 : (q_I r893 12 2 a0).toInt = (q_I r758.2 12 2 a0).toInt := congrArg Int32.toInt (u898 12 2 a0 (by decide))
                have f1015 := cb_12_2 i760 k_a0
                have f1016 : (q_I r758.2 12 2 a0).toInt = (q_I r604 12 2 a0).toInt := congrArg Int32.toInt (u764 12 2 a0 (by decide))
                have f1017 := cb_12_2 i632 k_a0
                have f1018 : (q_I r604 12 2 a0).toInt = (q_I r96.2 12 2 a0).toInt := congrArg Int32.toInt (u639 12 2 a0 (by decide))
                have f1019 := cb_12_2 i98 k_a0
                have f1020 : (q_I r96.2 12 2 a0).toInt = (q_I d90 12 2 a0).toInt := congrArg Int32.toInt (u102 12 2 a0 (by decide))
                have f1021 := cb_12_2 i92 k_a0
                have f1022 : (q_I d90 12 2 a0).toInt = (q_I d84 12 2 a0).toInt := congrArg Int32.toInt (by rw [e91]; exact rI_o (by decide))
                have f1023 := cb_12_2 i86 k_a0
                have f1024 : (q_I d84 12 2 a0).toInt = (q_I d78 12 2 a0).toInt := congrArg Int32.toInt (by rw [e85]; exact rI_o (by decide))
                have f1025 := cb_12_2 i80 k_a0
                have f1026 : (q_I d78 12 2 a0).toInt = (q_I r43 12 2 a0).toInt := congrArg Int32.toInt (by rw [e79]; exact rI_o (by decide))
                exact ok_some (show RI ad h.1 δ0 r907.2 ∧ (kp [(12, 0), (12, 2), (12, 3), (12, 4), (12, 5), (12, 6), (12, 7), (12, 8), (12, 24), (12, 25), (12, 26), (12, 27)] δ r907.2 ∧ q_V r907.2 = q_V δ ∧ kr ad [100, 112, 113, 114, 115, 116, 117] δ r907.2) ∧ TK ad a0 δ r907.2 ∧ (0 ≤ (x1).toInt ∧ (x1).toInt ≤ (q_I δ 12 2 a0).toInt → (q_I r907.2 12 2 a0).toInt = 0) ∧ ((x1).toInt < 0 ∨ (q_I δ 12 2 a0).toInt < (x1).toInt → (q_I r907.2 12 2 a0).toInt = (q_I δ 12 2 a0).toInt) from ⟨i909, ⟨kp_w (by decide) u915, v916, kr_w (by decide) v917⟩, ss1005, by first | assumption | omega, by first | assumption | omega⟩)
  · have c1027 : (0 : Int) ≤ x1.toInt := o_nlt h8
    have f1028 := cb_12_2 i3 k_a0
    have f1029 : (q_I d1 12 2 a0).toInt = (q_I δ 12 2 a0).toInt := congrArg Int32.toInt (by rw [e2]; exact rI_o (by decide))
    have f1030 := cb_12_2 I k_a0
    refine ok_ite (fun h1031 => ?_) (fun h1031 => ?_)
    · have c1032 : (q_I d1 12 2 a0).toInt < x1.toInt := o_lt h1031
      unfold J_X12_thief_22
      unfold J_X12_thief_23
      refine ok_bind (k_X12_may L hN (a0 := a0) (x1 := (0 : Int32)) (x2 := (1 : Int32)) (x3 := (2 : Int32)) k_a0 (show (1 : Int) ≠ 0 by first | assumption | omega) (show 0 ≤ (2 : Int) by first | assumption | omega) (show (2 : Int) ≤ 2 by first | assumption | omega) i3) (fun r1033 hr1034 => ?_)
      obtain ⟨i1035, ⟨u1039, u1040, u1041⟩, p1036, p1037, p1038⟩ := hr1034
      have u1042 := kp_t u4 u1039
      have v1043 : q_V r1033.2 = q_V δ := (u1040).trans v5
      have v1044 := kr_t v6 u1041
      have f1045 := bo_l p1036
      have f1046 := ti_b r1033.1
      replace p1037 : ((r1033.1).toInt = 1 → (0 : Int) ≠ 0) := p1037
      have f1047 := ti_b (q_I d1 12 0 a0)
      have f1048 : (q_I d1 12 0 a0).toInt = (0 : Int) := congrArg Int32.toInt (show q_I d1 12 0 a0 = (0 : Int32) by rw [e2]; exact rI_s)
      replace p1038 : ((q_I d1 12 0 a0).toInt = 0 → (r1033.1).toInt = 0 → (0 : Int) = 0) := p1038
      have f1049 := ti_b r1033.1
      have f1051 := cb_12_5 i1035 k_a0
      have f1052 : (q_I r1033.2 12 5 a0).toInt = (q_I d1 12 5 a0).toInt := congrArg Int32.toInt (u1039 12 5 a0 (by decide))
      have f1053 := cb_12_5 i3 k_a0
      have f1054 : (q_I d1 12 5 a0).toInt = (q_I δ 12 5 a0).toInt := congrArg Int32.toInt (by rw [e2]; exact rI_o (by decide))
      have f1055 := cb_12_5 I k_a0
      have ns1050 : NS ad a0 d1 r1033.2 := ⟨u1041 112 (by decide) (by decide) (by decide), u1041 113 (by decide) (by decide) (by decide), u1041 114 (by decide) (by decide) (by decide), u1041 115 (by decide) (by decide) (by decide), u1041 116 (by decide) (by decide) (by decide), u1039 12 24 _ (by decide), u1039 12 25 _ (by decide), u1039 12 26 _ (by decide), u1039 12 27 _ (by decide), fun z => by omega⟩
      refine ok_ite (fun h1056 => ?_) (fun h1056 => ?_)
      · have c1057 : r1033.1.toInt = (0 : Int) := o_eq h1056
        have ss1058 : NS ad a0 δ d1 := NS.t NS.r (NS.w e2 (by decide))
        have ss1059 : NS0 ad a0 δ r1033.2 := NS0.t (NS.z ss1058) (NS.z ns1050)
        have f1060 := cb_12_2 i1035 k_a0
        have f1061 : (q_I r1033.2 12 2 a0).toInt = (q_I d1 12 2 a0).toInt := congrArg Int32.toInt (u1039 12 2 a0 (by decide))
        exact ok_some (show RI ad h.1 δ0 r1033.2 ∧ (kp [(12, 0), (12, 2), (12, 3), (12, 4), (12, 5), (12, 6), (12, 7), (12, 8), (12, 24), (12, 25), (12, 26), (12, 27)] δ r1033.2 ∧ q_V r1033.2 = q_V δ ∧ kr ad [100, 112, 113, 114, 115, 116, 117] δ r1033.2) ∧ TK ad a0 δ r1033.2 ∧ (0 ≤ (x1).toInt ∧ (x1).toInt ≤ (q_I δ 12 2 a0).toInt → (q_I r1033.2 12 2 a0).toInt = 0) ∧ ((x1).toInt < 0 ∨ (q_I δ 12 2 a0).toInt < (x1).toInt → (q_I r1033.2 12 2 a0).toInt = (q_I δ 12 2 a0).toInt) from ⟨i1035, ⟨kp_w (by decide) u1042, v1043, kr_w (by decide) v1044⟩, TK.n ss1059, by first | assumption | omega, by first | assumption | omega⟩)
      · have c1062 : r1033.1.toInt ≠ (0 : Int) := o_ne h1056
        refine ok_bind (k_X12_begins L hN (a0 := a0) (x1 := x1) k_a0 (show 0 ≤ (x1).toInt by first | assumption | omega) (show (x1).toInt ≤ 500 by first | assumption | omega) i1035) (fun r1063 hr1064 => ?_)
        obtain ⟨i1065, ⟨u1071, u1072, u1073, u1074⟩, p1066, p1067, p1068, p1069, p1070⟩ := hr1064
        have u1075 := kp_t u1042 u1071
        have v1076 : q_V r1063 = q_V δ := (u1072).trans v1043
        have v1077 := kr_t v1044 u1074
        have f1078 := cb_12_2 i1065 k_a0
        have f1079 := cb_12_4 i1065 k_a0
        have f1080 := cb_12_3 i1065 k_a0
        have f1081 := cb_12_5 i1065 k_a0
        have f1082 := ti_b (q_I r1063 12 7 a0)
        have ns1083 : NS0 ad a0 r1033.2 r1063 := ⟨u1074 112 (by decide) (by decide) (by decide), u1074 113 (by decide) (by decide) (by decide), u1074 114 (by decide) (by decide) (by decide), u1074 115 (by decide) (by decide) (by decide), u1074 116 (by decide) (by decide) (by decide), u1071 12 24 _ (by decide)⟩
        have f1084 := cb_12_24 i1065 k_a0
        have f1085 : (q_I r1063 12 24 a0).toInt = (q_I r1033.2 12 24 a0).toInt := congrArg Int32.toInt (u1071 12 24 a0 (by decide))
        have f1086 := cb_12_24 i1035 k_a0
        have f1087 : (q_I r1033.2 12 24 a0).toInt = (q_I d1 12 24 a0).toInt := congrArg Int32.toInt (u1039 12 24 a0 (by decide))
        have f1088 := cb_12_24 i3 k_a0
        have f1089 : (q_I d1 12 24 a0).toInt = (q_I δ 12 24 a0).toInt := congrArg Int32.toInt (by rw [e2]; exact rI_o (by decide))
        have f1090 := cb_12_24 I k_a0
        refine ok_ite (fun h1091 => ?_) (fun h1091 => ?_)
        · have c1092 : (q_I r1063 12 24 a0).toInt = (4 : Int) := o_eq h1091
          have ss1093 : NS ad a0 δ d1 := NS.t NS.r (NS.w e2 (by decide))
          have ss1094 : NS0 ad a0 δ r1033.2 := NS0.t (NS.z ss1093) (NS.z ns1050)
          have ss1095 : NS0 ad a0 δ r1063 := NS0.t ss1094 ns1083
          exact ok_some (show RI ad h.1 δ0 r1063 ∧ (kp [(12, 0), (12, 2), (12, 3), (12, 4), (12, 5), (12, 6), (12, 7), (12, 8), (12, 24), (12, 25), (12, 26), (12, 27)] δ r1063 ∧ q_V r1063 = q_V δ ∧ kr ad [100, 112, 113, 114, 115, 116, 117] δ r1063) ∧ TK ad a0 δ r1063 ∧ (0 ≤ (x1).toInt ∧ (x1).toInt ≤ (q_I δ 12 2 a0).toInt → (q_I r1063 12 2 a0).toInt = 0) ∧ ((x1).toInt < 0 ∨ (q_I δ 12 2 a0).toInt < (x1).toInt → (q_I r1063 12 2 a0).toInt = (q_I δ 12 2 a0).toInt) from ⟨i1065, ⟨kp_w (by decide) u1075, v1076, kr_w (by decide) v1077⟩, TK.n ss1095, by first | assumption | omega, by first | assumption | omega⟩)
        · have c1096 : (q_I r1063 12 24 a0).toInt ≠ (4 : Int) := o_ne h1091
          refine ok_bdv (fun d1097 e1098 => ?_)
          have i1099 : RI ad h.1 δ0 d1097 := by rw [e1098]; exact cs_12_25 L i1065 k_a0 (show 0 ≤ (0 : Int) by omega) (show (0 : Int) ≤ 60 by omega)
          have u1100 := kp_I u1075 e1098
          have v1101 : q_V d1097 = q_V δ := ((show q_V d1097 = q_V r1063 by rw [e1098]; rfl)).trans v1076
          have v1102 := kr_N v1077 (show q_R d1097 = q_R r1063 by rw [e1098]; rfl)
          refine ok_bdv (fun d1103 e1104 => ?_)
          have i1105 : RI ad h.1 δ0 d1103 := by rw [e1104]; exact cs_12_26 L i1099 k_a0 (show 0 ≤ (0 : Int) by omega) (show (0 : Int) ≤ 500 by omega)
          have u1106 := kp_I u1100 e1104
          have v1107 : q_V d1103 = q_V δ := ((show q_V d1103 = q_V d1097 by rw [e1104]; rfl)).trans v1101
          have v1108 := kr_N v1102 (show q_R d1103 = q_R d1097 by rw [e1104]; rfl)
          refine ok_bdv (fun d1109 e1110 => ?_)
          have i1111 : RI ad h.1 δ0 d1109 := by rw [e1110]; exact cs_12_27 L i1105 k_a0 (show 0 ≤ (0 : Int) by omega) (show (0 : Int) ≤ 3 by omega)
          have u1112 := kp_I u1106 e1110
          have v1113 : q_V d1109 = q_V δ := ((show q_V d1109 = q_V d1103 by rw [e1110]; rfl)).trans v1107
          have v1114 := kr_N v1108 (show q_R d1109 = q_R d1103 by rw [e1110]; rfl)
          refine ok_bind (k_X12_isMore L hN (a0 := a0) k_a0 i1111) (fun r1115 hr1116 => ?_)
          obtain ⟨i1117, ⟨u1121, u1122, u1123, u1124⟩, p1118, p1119, p1120⟩ := hr1116
          have u1125 := kp_t u1112 u1121
          have v1126 : q_V r1115.2 = q_V δ := (u1122).trans v1113
          have v1127 := kr_t v1114 u1124
          have f1128 := bo_l p1118
          have f1129 := cb_12_4 i1111 k_a0
          have f1130 : (q_I d1109 12 4 a0).toInt = (q_I d1103 12 4 a0).toInt := congrArg Int32.toInt (by rw [e1110]; exact rI_o (by decide))
          have f1131 := cb_12_4 i1105 k_a0
          have f1132 : (q_I d1103 12 4 a0).toInt = (q_I d1097 12 4 a0).toInt := congrArg Int32.toInt (by rw [e1104]; exact rI_o (by decide))
          have f1133 := cb_12_4 i1099 k_a0
          have f1134 : (q_I d1097 12 4 a0).toInt = (q_I r1063 12 4 a0).toInt := congrArg Int32.toInt (by rw [e1098]; exact rI_o (by decide))
          have f1135 := cb_12_4 i1117 k_a0
          have f1136 := ti_b r1115.1
          have f1137 := cb_12_3 i1111 k_a0
          have f1138 : (q_I d1109 12 3 a0).toInt = (q_I d1103 12 3 a0).toInt := congrArg Int32.toInt (by rw [e1110]; exact rI_o (by decide))
          have f1139 := cb_12_3 i1105 k_a0
          have f1140 : (q_I d1103 12 3 a0).toInt = (q_I d1097 12 3 a0).toInt := congrArg Int32.toInt (by rw [e1104]; exact rI_o (by decide))
          have f1141 := cb_12_3 i1099 k_a0
          have f1142 : (q_I d1097 12 3 a0).toInt = (q_I r1063 12 3 a0).toInt := congrArg Int32.toInt (by rw [e1098]; exact rI_o (by decide))
          have f1143 := ti_b r1115.1
          have f1145 := cb_12_5 i1117 k_a0
          have f1146 : (q_I r1115.2 12 5 a0).toInt = (q_I d1109 12 5 a0).toInt := congrArg Int32.toInt (u1121 12 5 a0 (by decide))
          have f1147 := cb_12_5 i1111 k_a0
          have f1148 : (q_I d1109 12 5 a0).toInt = (q_I d1103 12 5 a0).toInt := congrArg Int32.toInt (by rw [e1110]; exact rI_o (by decide))
          have f1149 := cb_12_5 i1105 k_a0
          have f1150 : (q_I d1103 12 5 a0).toInt = (q_I d1097 12 5 a0).toInt := congrArg Int32.toInt (by rw [e1104]; exact rI_o (by decide))
          have f1151 := cb_12_5 i1099 k_a0
          have f1152 : (q_I d1097 12 5 a0).toInt = (q_I r1063 12 5 a0).toInt := congrArg Int32.toInt (by rw [e1098]; exact rI_o (by decide))
          have ns1144 : NS ad a0 d1109 r1115.2 := ⟨u1124 112 (by decide) (by decide) (by decide), u1124 113 (by decide) (by decide) (by decide), u1124 114 (by decide) (by decide) (by decide), u1124 115 (by decide) (by decide) (by decide), u1124 116 (by decide) (by decide) (by decide), u1121 12 24 _ (by decide), u1121 12 25 _ (by decide), u1121 12 26 _ (by decide), u1121 12 27 _ (by decide), fun z => by omega⟩
          refine ok_ite (fun h1153 => ?_) (fun h1153 => ?_)
          · have c1154 : r1115.1.toInt = (0 : Int) := o_eq h1153
            have f1157 := cb_12_3 i1117 k_a0
            have f1158 : (q_I r1115.2 12 3 a0).toInt = (q_I d1109 12 3 a0).toInt := congrArg Int32.toInt (u1121 12 3 a0 (by decide))
            refine ok_bind (k_X12_wrong L hN (a0 := a0) (x1 := (1 : Int32)) (x2 := (q_I r1115.2 12 3 a0)) k_a0 (show 0 ≤ ((q_I r1115.2 12 3 a0)).toInt by first | assumption | omega) (show ((q_I r1115.2 12 3 a0)).toInt ≤ 500 by first | assumption | omega) (show 0 ≤ (1 : Int) by first | assumption | omega) (show (1 : Int) ≤ 4 by first | assumption | omega) i1117) (fun r1155 hr1156 => ?_)
            obtain ⟨i1159, ⟨u1162, u1163, u1164, u1165⟩, p1160, p1161⟩ := hr1156
            have u1166 := kp_t u1125 u1162
            have v1167 : q_V r1155 = q_V δ := (u1163).trans v1126
            have v1168 := kr_t v1127 u1165
            have f1169 := cb_12_5 i1159 k_a0
            have ns1170 : NS ad a0 r1115.2 r1155 := ⟨u1165 112 (by decide) (by decide) (by decide), u1165 113 (by decide) (by decide) (by decide), u1165 114 (by decide) (by decide) (by decide), u1165 115 (by decide) (by decide) (by decide), u1165 116 (by decide) (by decide) (by decide), u1162 12 24 _ (by decide), u1162 12 25 _ (by decide), u1162 12 26 _ (by decide), u1162 12 27 _ (by decide), fun z => by omega⟩
            unfold J_X12_thief_79
            have f1173 := cb_12_24 i1159 k_a0
            have f1174 : (q_I r1155 12 24 a0).toInt = (q_I r1115.2 12 24 a0).toInt := congrArg Int32.toInt (u1162 12 24 a0 (by decide))
            have f1175 := cb_12_24 i1117 k_a0
            have f1176 : (q_I r1115.2 12 24 a0).toInt = (q_I d1109 12 24 a0).toInt := congrArg Int32.toInt (u1121 12 24 a0 (by decide))
            have f1177 := cb_12_24 i1111 k_a0
            have f1178 : (q_I d1109 12 24 a0).toInt = (q_I d1103 12 24 a0).toInt := congrArg Int32.toInt (by rw [e1110]; exact rI_o (by decide))
            have f1179 := cb_12_24 i1105 k_a0
            have f1180 : (q_I d1103 12 24 a0).toInt = (q_I d1097 12 24 a0).toInt := congrArg Int32.toInt (by rw [e1104]; exact rI_o (by decide))
            have f1181 := cb_12_24 i1099 k_a0
            have f1182 : (q_I d1097 12 24 a0).toInt = (q_I r1063 12 24 a0).toInt := congrArg Int32.toInt (by rw [e1098]; exact rI_o (by decide))
            have f1183 := cb_12_26 i1159 k_a0
            have f1184 : (q_I r1155 12 26 a0).toInt = (q_I r1115.2 12 26 a0).toInt := congrArg Int32.toInt (u1162 12 26 a0 (by decide))
            have f1185 := cb_12_26 i1117 k_a0
            have f1186 : (q_I r1115.2 12 26 a0).toInt = (q_I d1109 12 26 a0).toInt := congrArg Int32.toInt (u1121 12 26 a0 (by decide))
            have f1187 := cb_12_26 i1111 k_a0
            have f1188 : (q_I d1109 12 26 a0).toInt = (q_I d1103 12 26 a0).toInt := congrArg Int32.toInt (by rw [e1110]; exact rI_o (by decide))
            have f1189 := cb_12_26 i1105 k_a0
            have f1190 : (q_I d1103 12 26 a0).toInt = (0 : Int) := congrArg Int32.toInt (show q_I d1103 12 26 a0 = (0 : Int32) by rw [e1104]; exact rI_s)
            have f1191 := cb_12_4 i1159 k_a0
            have f1192 : (q_I r1155 12 4 a0).toInt = (q_I r1115.2 12 4 a0).toInt := congrArg Int32.toInt (u1162 12 4 a0 (by decide))
            have f1193 := ti_b (q_I r1155 12 7 a0)
            have f1194 : (q_I r1155 12 7 a0).toInt = (q_I r1115.2 12 7 a0).toInt := congrArg Int32.toInt (u1162 12 7 a0 (by decide))
            have f1195 := ti_b (q_I r1115.2 12 7 a0)
            have f1196 : (q_I r1115.2 12 7 a0).toInt = (q_I d1109 12 7 a0).toInt := congrArg Int32.toInt (u1121 12 7 a0 (by decide))
            have f1197 := ti_b (q_I d1109 12 7 a0)
            have f1198 : (q_I d1109 12 7 a0).toInt = (q_I d1103 12 7 a0).toInt := congrArg Int32.toInt (by rw [e1110]; exact rI_o (by decide))
            have f1199 := ti_b (q_I d1103 12 7 a0)
            have f1200 : (q_I d1103 12 7 a0).toInt = (q_I d1097 12 7 a0).toInt := congrArg Int32.toInt (by rw [e1104]; exact rI_o (by decide))
            have f1201 := ti_b (q_I d1097 12 7 a0)
            have f1202 : (q_I d1097 12 7 a0).toInt = (q_I r1063 12 7 a0).toInt := congrArg Int32.toInt (by rw [e1098]; exact rI_o (by decide))
            have f1203 := cb_12_27 i1159 k_a0
            have f1204 : (q_I r1155 12 27 a0).toInt = (q_I r1115.2 12 27 a0).toInt := congrArg Int32.toInt (u1162 12 27 a0 (by decide))
            have f1205 := cb_12_27 i1117 k_a0
            have f1206 : (q_I r1115.2 12 27 a0).toInt = (q_I d1109 12 27 a0).toInt := congrArg Int32.toInt (u1121 12 27 a0 (by decide))
            have f1207 := cb_12_27 i1111 k_a0
            have f1208 : (q_I d1109 12 27 a0).toInt = (0 : Int) := congrArg Int32.toInt (show q_I d1109 12 27 a0 = (0 : Int32) by rw [e1110]; exact rI_s)
            refine ok_bind (k_X12_readSteps L hN (a0 := a0) k_a0 (show (q_I r1155 12 24 a0).toInt ≤ 3 by first | assumption | omega) (show (q_I r1155 12 26 a0).toInt ≤ (q_I r1155 12 4 a0).toInt by first | assumption | omega) (show (q_I r1155 12 7 a0).toInt = 0 by first | assumption | omega) (show 4 - (q_I r1155 12 27 a0).toInt < 20 by first | assumption | omega) i1159) (fun r1171 hr1172 => ?_)
            obtain ⟨i1209, ⟨u1216, u1217, u1218⟩, p1210, p1211, p1212, p1213, p1214, p1215⟩ := hr1172
            have u1219 := kp_t u1166 u1216
            have v1220 : q_V r1171 = q_V δ := (u1217).trans v1167
            have v1221 := kr_t v1168 u1218
            have f1222 := cb_12_4 i1209 k_a0
            have f1223 := cb_12_5 i1209 k_a0
            have f1224 := ti_b (q_I r1171 12 7 a0)
            have f1225 := cb_12_27 i1209 k_a0
            have f1226 := cb_12_26 i1209 k_a0
            refine ok_bind (k_X12_fine L hN (a0 := a0) k_a0 i1209) (fun r1227 hr1228 => ?_)
            obtain ⟨i1229, p1230, p1231, p1232⟩ := hr1228
            try rw [i1229]
            have f1233 := bo_l p1230
            have f1234 := ti_b r1227.1
            have f1235 := ti_b r1227.1
            refine ok_ite (fun h1236 => ?_) (fun h1236 => ?_)
            · have c1237 : r1227.1.toInt = (0 : Int) := o_eq h1236
              unfold J_X12_thief_106
              refine ok_bind (k_X12_result L hN (a0 := a0) (x1 := (q_I r1171 12 24 a0)) k_a0 i1209) (fun r1238 hr1239 => ?_)
              obtain ⟨i1240, ⟨u1242, u1243, u1244, u1245⟩, p1241⟩ := hr1239
              have u1246 := kp_t u1219 u1242
              have v1247 : q_V r1238.2 = q_V δ := (u1243).trans v1220
              have v1248 := kr_t v1221 u1245
              have f1249 := ti_b r1238.1
              have f1250 := ti_b r1238.1
              have f1252 := cb_12_5 i1240 k_a0
              have f1253 : (q_I r1238.2 12 5 a0).toInt = (q_I r1171 12 5 a0).toInt := congrArg Int32.toInt (u1242 12 5 a0 (by decide))
              have ns1251 : NS ad a0 r1171 r1238.2 := ⟨u1245 112 (by decide) (by decide) (by decide), u1245 113 (by decide) (by decide) (by decide), u1245 114 (by decide) (by decide) (by decide), u1245 115 (by decide) (by decide) (by decide), u1245 116 (by decide) (by decide) (by decide), u1242 12 24 _ (by decide), u1242 12 25 _ (by decide), u1242 12 26 _ (by decide), u1242 12 27 _ (by decide), fun z => by omega⟩
              have f1254 := cb_12_24 i1240 k_a0
              have f1255 : (q_I r1238.2 12 24 a0).toInt = (q_I r1171 12 24 a0).toInt := congrArg Int32.toInt (u1242 12 24 a0 (by decide))
              have f1256 := cb_12_24 i1209 k_a0
              have f1257 : (q_I r1171 12 24 a0).toInt = (q_I r1155 12 24 a0).toInt := congrArg Int32.toInt (u1216 12 24 a0 (by decide))
              refine ok_ite (fun h1258 => ?_) (fun h1258 => ?_)
              · have c1259 : r1238.1.toInt = (q_I r1238.2 12 24 a0).toInt := o_eq h1258
                obtain ⟨b1260, o1261, k1262, n1263⟩ := gO_12_28 L k_a0
                obtain rfl := gS_12_28 L k_a0 o1261
                refine ok_at o1261 ?_
                have t1264 := ti_tn (q_I r1238.2 12 24 a0)
                refine ok_gd (fun hc1265 => ?_) ?_
                · rcases hc1265 with hc1265 | hc1265
                  · have c1266 : (q_I r1238.2 12 24 a0).toInt < (0 : Int) := o_lt hc1265
                    omega
                  · omega
                have f1270 := cb_12_25 i1240 k_a0
                have f1271 : (q_I r1238.2 12 25 a0).toInt = (q_I r1171 12 25 a0).toInt := congrArg Int32.toInt (u1242 12 25 a0 (by decide))
                have f1272 := cb_12_25 i1209 k_a0
                refine ok_bdv (fun d1267 e1268 => ?_)
                have i1269 : RI ad h.1 δ0 d1267 := by rw [e1268]; exact cr_112 L i1240 (show 0 ≤ (q_I r1238.2 12 25 a0).toInt by omega) (show (q_I r1238.2 12 25 a0).toInt ≤ 60 by omega)
                have u1273 := kp_N u1246 (show q_I d1267 = q_I r1238.2 by rw [e1268]; rfl)
                have v1274 : q_V d1267 = q_V δ := ((show q_V d1267 = q_V r1238.2 by rw [e1268]; rfl)).trans v1247
                have v1275 := kr_s L (by decide) v1248 e1268
                have f1279 := cb_12_24 i1269 k_a0
                have f1280 : (q_I d1267 12 24 a0).toInt = (q_I r1238.2 12 24 a0).toInt := congrArg Int32.toInt (by rw [e1268]; rfl)
                first | (have q1282 := te_addc (c := 1) (n := 1) rfl (q_I d1267 12 24 a0) (by omega) (by omega); obtain ⟨f1283, f1284, f1285⟩ := q1282) | (obtain ⟨q1282, f1283, f1284, f1285⟩ := ti_addc (c := 1) (n := 1) rfl (q_I d1267 12 24 a0))
                refine ok_bdv (fun d1276 e1277 => ?_)
                have i1278 : RI ad h.1 δ0 d1276 := by rw [e1277]; exact cs_12_24 L i1269 k_a0 (show 0 ≤ ((q_I d1267 12 24 a0) + (1 : Int32)).toInt by omega) (show ((q_I d1267 12 24 a0) + (1 : Int32)).toInt ≤ 4 by omega)
                have u1286 := kp_I u1273 e1277
                have v1287 : q_V d1276 = q_V δ := ((show q_V d1276 = q_V d1267 by rw [e1277]; rfl)).trans v1274
                have v1288 := kr_N v1275 (show q_R d1276 = q_R d1267 by rw [e1277]; rfl)
                unfold J_X12_thief_146
                have ss1289 : NS ad a0 δ d1 := NS.t NS.r (NS.w e2 (by decide))
                have ss1290 : NS0 ad a0 δ r1033.2 := NS0.t (NS.z ss1289) (NS.z ns1050)
                have ss1291 : NS0 ad a0 δ r1063 := NS0.t ss1290 ns1083
                have ns1293 : NS ad a0 d1109 r1115.2 := NS.t NS.r ns1144
                have ns1294 : NS ad a0 d1109 r1155 := NS.t ns1293 ns1170
                have ns1295 : NS ad a0 r1171 r1238.2 := NS.t NS.r ns1251
                have f1296 := cb_12_26 i1240 k_a0
                have f1297 : (q_I r1238.2 12 26 a0).toInt = (q_I r1171 12 26 a0).toInt := congrArg Int32.toInt (u1242 12 26 a0 (by decide))
                have ss1292 : TK ad a0 δ d1276 := TK.good L ss1291 e1098 e1104 e1110 ns1294 p1215 (u1218 112 (by decide) (by decide) (by decide)) ns1295 (show (0 : Int) = 0 by omega) (show (0 : Int) = 0 by omega) (show (0 : Int) = 0 by omega) (by omega) e1268 e1277 (show (((q_I r1238.2 12 24 a0).toNatClampNeg : Nat) : Int) = (q_I δ 12 24 a0).toInt by omega) (show (q_I r1238.2 12 25 a0).toInt = (q_I r1238.2 12 25 a0).toInt by omega) (show ((q_I d1267 12 24 a0) + (1 : Int32)).toInt = (q_I δ 12 24 a0).toInt + 1 by omega) (show (q_I r1238.2 12 5 a0).toInt = -1 by omega) (show (q_I r1238.2 12 26 a0).toInt ≤ 500 by omega)
                have f1298 := cb_12_2 i1278 k_a0
                have f1299 : (q_I d1276 12 2 a0).toInt = (q_I d1267 12 2 a0).toInt := congrArg Int32.toInt (by rw [e1277]; exact rI_o (by decide))
                have f1300 := cb_12_2 i1269 k_a0
                have f1301 : (q_I d1267 12 2 a0).toInt = (q_I r1238.2 12 2 a0).toInt := congrArg Int32.toInt (by rw [e1268]; rfl)
                have f1302 := cb_12_2 i1240 k_a0
                have f1303 : (q_I r1238.2 12 2 a0).toInt = (q_I r1171 12 2 a0).toInt := congrArg Int32.toInt (u1242 12 2 a0 (by decide))
                have f1304 := cb_12_2 i1209 k_a0
                have f1305 : (q_I r1171 12 2 a0).toInt = (q_I r1155 12 2 a0).toInt := congrArg Int32.toInt (u1216 12 2 a0 (by decide))
                have f1306 := cb_12_2 i1159 k_a0
                have f1307 : (q_I r1155 12 2 a0).toInt = (q_I r1115.2 12 2 a0).toInt := congrArg Int32.toInt (u1162 12 2 a0 (by decide))
                have f1308 := cb_12_2 i1117 k_a0
                have f1309 : (q_I r1115.2 12 2 a0).toInt = (q_I d1109 12 2 a0).toInt := congrArg Int32.toInt (u1121 12 2 a0 (by decide))
                have f1310 := cb_12_2 i1111 k_a0
                have f1311 : (q_I d1109 12 2 a0).toInt = (q_I d1103 12 2 a0).toInt := congrArg Int32.toInt (by rw [e1110]; exact rI_o (by decide))
                have f1312 := cb_12_2 i1105 k_a0
                have f1313 : (q_I d1103 12 2 a0).toInt = (q_I d1097 12 2 a0).toInt := congrArg Int32.toInt (by rw [e1104]; exact rI_o (by decide))
                have f1314 := cb_12_2 i1099 k_a0
                have f1315 : (q_I d1097 12 2 a0).toInt = (q_I r1063 12 2 a0).toInt := congrArg Int32.toInt (by rw [e1098]; exact rI_o (by decide))
                exact ok_some (show RI ad h.1 δ0 d1276 ∧ (kp [(12, 0), (12, 2), (12, 3), (12, 4), (12, 5), (12, 6), (12, 7), (12, 8), (12, 24), (12, 25), (12, 26), (12, 27)] δ d1276 ∧ q_V d1276 = q_V δ ∧ kr ad [100, 112, 113, 114, 115, 116, 117] δ d1276) ∧ TK ad a0 δ d1276 ∧ (0 ≤ (x1).toInt ∧ (x1).toInt ≤ (q_I δ 12 2 a0).toInt → (q_I d1276 12 2 a0).toInt = 0) ∧ ((x1).toInt < 0 ∨ (q_I δ 12 2 a0).toInt < (x1).toInt → (q_I d1276 12 2 a0).toInt = (q_I δ 12 2 a0).toInt) from ⟨i1278, ⟨kp_w (by decide) u1286, v1287, kr_w (by decide) v1288⟩, ss1292, by first | assumption | omega, by first | assumption | omega⟩)
              · have c1316 : r1238.1.toInt ≠ (q_I r1238.2 12 24 a0).toInt := o_ne h1258
                unfold J_X12_thief_146
                have ss1317 : NS ad a0 δ d1 := NS.t NS.r (NS.w e2 (by decide))
                have ss1318 : NS0 ad a0 δ r1033.2 := NS0.t (NS.z ss1317) (NS.z ns1050)
                have ss1319 : NS0 ad a0 δ r1063 := NS0.t ss1318 ns1083
                have ns1321 : NS ad a0 d1109 r1115.2 := NS.t NS.r ns1144
                have ns1322 : NS ad a0 d1109 r1155 := NS.t ns1321 ns1170
                have ns1323 : NS ad a0 r1171 r1238.2 := NS.t NS.r ns1251
                have ss1320 : TK ad a0 δ r1238.2 := TK.bad L ss1319 e1098 e1104 e1110 ns1322 p1215 (u1218 112 (by decide) (by decide) (by decide)) ns1323 (show (0 : Int) = 0 by omega) (show (0 : Int) = 0 by omega) (show (0 : Int) = 0 by omega) (by omega)
                have f1324 := cb_12_2 i1240 k_a0
                have f1325 : (q_I r1238.2 12 2 a0).toInt = (q_I r1171 12 2 a0).toInt := congrArg Int32.toInt (u1242 12 2 a0 (by decide))
                have f1326 := cb_12_2 i1209 k_a0
                have f1327 : (q_I r1171 12 2 a0).toInt = (q_I r1155 12 2 a0).toInt := congrArg Int32.toInt (u1216 12 2 a0 (by decide))
                have f1328 := cb_12_2 i1159 k_a0
                have f1329 : (q_I r1155 12 2 a0).toInt = (q_I r1115.2 12 2 a0).toInt := congrArg Int32.toInt (u1162 12 2 a0 (by decide))
                have f1330 := cb_12_2 i1117 k_a0
                have f1331 : (q_I r1115.2 12 2 a0).toInt = (q_I d1109 12 2 a0).toInt := congrArg Int32.toInt (u1121 12 2 a0 (by decide))
                have f1332 := cb_12_2 i1111 k_a0
                have f1333 : (q_I d1109 12 2 a0).toInt = (q_I d1103 12 2 a0).toInt := congrArg Int32.toInt (by rw [e1110]; exact rI_o (by decide))
                have f1334 := cb_12_2 i1105 k_a0
                have f1335 : (q_I d1103 12 2 a0).toInt = (q_I d1097 12 2 a0).toInt := congrArg Int32.toInt (by rw [e1104]; exact rI_o (by decide))
                have f1336 := cb_12_2 i1099 k_a0
                have f1337 : (q_I d1097 12 2 a0).toInt = (q_I r1063 12 2 a0).toInt := congrArg Int32.toInt (by rw [e1098]; exact rI_o (by decide))
                exact ok_some (show RI ad h.1 δ0 r1238.2 ∧ (kp [(12, 0), (12, 2), (12, 3), (12, 4), (12, 5), (12, 6), (12, 7), (12, 8), (12, 24), (12, 25), (12, 26), (12, 27)] δ r1238.2 ∧ q_V r1238.2 = q_V δ ∧ kr ad [100, 112, 113, 114, 115, 116, 117] δ r1238.2) ∧ TK ad a0 δ r1238.2 ∧ (0 ≤ (x1).toInt ∧ (x1).toInt ≤ (q_I δ 12 2 a0).toInt → (q_I r1238.2 12 2 a0).toInt = 0) ∧ ((x1).toInt < 0 ∨ (q_I δ 12 2 a0).toInt < (x1).toInt → (q_I r1238.2 12 2 a0).toInt = (q_I δ 12 2 a0).toInt) from ⟨i1240, ⟨kp_w (by decide) u1246, v1247, kr_w (by decide) v1248⟩, ss1320, by first | assumption | omega, by first | assumption | omega⟩)
            · have c1338 : r1227.1.toInt ≠ (0 : Int) := o_ne h1236
              refine ok_bind (k_X12_isMore L hN (a0 := a0) k_a0 i1209) (fun r1339 hr1340 => ?_)
              obtain ⟨i1341, ⟨u1345, u1346, u1347, u1348⟩, p1342, p1343, p1344⟩ := hr1340
              have u1349 := kp_t u1219 u1345
              have v1350 : q_V r1339.2 = q_V δ := (u1346).trans v1220
              have v1351 := kr_t v1221 u1348
              have f1352 := bo_l p1342
              have f1353 := cb_12_4 i1341 k_a0
              have f1354 := ti_b r1339.1
              have f1355 := cb_12_3 i1209 k_a0
              have f1356 : (q_I r1171 12 3 a0).toInt = (q_I r1155 12 3 a0).toInt := congrArg Int32.toInt (u1216 12 3 a0 (by decide))
              have f1357 := cb_12_3 i1159 k_a0
              have f1358 : (q_I r1155 12 3 a0).toInt = (q_I r1115.2 12 3 a0).toInt := congrArg Int32.toInt (u1162 12 3 a0 (by decide))
              have f1359 := ti_b r1339.1
              have f1361 := cb_12_5 i1341 k_a0
              have f1362 : (q_I r1339.2 12 5 a0).toInt = (q_I r1171 12 5 a0).toInt := congrArg Int32.toInt (u1345 12 5 a0 (by decide))
              have ns1360 : NS ad a0 r1171 r1339.2 := ⟨u1348 112 (by decide) (by decide) (by decide), u1348 113 (by decide) (by decide) (by decide), u1348 114 (by decide) (by decide) (by decide), u1348 115 (by decide) (by decide) (by decide), u1348 116 (by decide) (by decide) (by decide), u1345 12 24 _ (by decide), u1345 12 25 _ (by decide), u1345 12 26 _ (by decide), u1345 12 27 _ (by decide), fun z => by omega⟩
              refine ok_ite (fun h1363 => ?_) (fun h1363 => ?_)
              · have c1364 : r1339.1.toInt = (0 : Int) := o_eq h1363
                unfold J_X12_thief_106
                refine ok_bind (k_X12_result L hN (a0 := a0) (x1 := (q_I r1339.2 12 24 a0)) k_a0 i1341) (fun r1365 hr1366 => ?_)
                obtain ⟨i1367, ⟨u1369, u1370, u1371, u1372⟩, p1368⟩ := hr1366
                have u1373 := kp_t u1349 u1369
                have v1374 : q_V r1365.2 = q_V δ := (u1370).trans v1350
                have v1375 := kr_t v1351 u1372
                have f1376 := ti_b r1365.1
                have f1377 := ti_b r1365.1
                have f1379 := cb_12_5 i1367 k_a0
                have f1380 : (q_I r1365.2 12 5 a0).toInt = (q_I r1339.2 12 5 a0).toInt := congrArg Int32.toInt (u1369 12 5 a0 (by decide))
                have ns1378 : NS ad a0 r1339.2 r1365.2 := ⟨u1372 112 (by decide) (by decide) (by decide), u1372 113 (by decide) (by decide) (by decide), u1372 114 (by decide) (by decide) (by decide), u1372 115 (by decide) (by decide) (by decide), u1372 116 (by decide) (by decide) (by decide), u1369 12 24 _ (by decide), u1369 12 25 _ (by decide), u1369 12 26 _ (by decide), u1369 12 27 _ (by decide), fun z => by omega⟩
                have f1381 := cb_12_24 i1367 k_a0
                have f1382 : (q_I r1365.2 12 24 a0).toInt = (q_I r1339.2 12 24 a0).toInt := congrArg Int32.toInt (u1369 12 24 a0 (by decide))
                have f1383 := cb_12_24 i1341 k_a0
                have f1384 : (q_I r1339.2 12 24 a0).toInt = (q_I r1171 12 24 a0).toInt := congrArg Int32.toInt (u1345 12 24 a0 (by decide))
                have f1385 := cb_12_24 i1209 k_a0
                have f1386 : (q_I r1171 12 24 a0).toInt = (q_I r1155 12 24 a0).toInt := congrArg Int32.toInt (u1216 12 24 a0 (by decide))
                refine ok_ite (fun h1387 => ?_) (fun h1387 => ?_)
                · have c1388 : r1365.1.toInt = (q_I r1365.2 12 24 a0).toInt := o_eq h1387
                  obtain ⟨b1389, o1390, k1391, n1392⟩ := gO_12_28 L k_a0
                  obtain rfl := gS_12_28 L k_a0 o1390
                  refine ok_at o1390 ?_
                  have t1393 := ti_tn (q_I r1365.2 12 24 a0)
                  refine ok_gd (fun hc1394 => ?_) ?_
                  · rcases hc1394 with hc1394 | hc1394
                    · have c1395 : (q_I r1365.2 12 24 a0).toInt < (0 : Int) := o_lt hc1394
                      omega
                    · omega
                  have f1399 := cb_12_25 i1367 k_a0
                  have f1400 : (q_I r1365.2 12 25 a0).toInt = (q_I r1339.2 12 25 a0).toInt := congrArg Int32.toInt (u1369 12 25 a0 (by decide))
                  have f1401 := cb_12_25 i1341 k_a0
                  have f1402 : (q_I r1339.2 12 25 a0).toInt = (q_I r1171 12 25 a0).toInt := congrArg Int32.toInt (u1345 12 25 a0 (by decide))
                  have f1403 := cb_12_25 i1209 k_a0
                  refine ok_bdv (fun d1396 e1397 => ?_)
                  have i1398 : RI ad h.1 δ0 d1396 := by rw [e1397]; exact cr_112 L i1367 (show 0 ≤ (q_I r1365.2 12 25 a0).toInt by omega) (show (q_I r1365.2 12 25 a0).toInt ≤ 60 by omega)
                  have u1404 := kp_N u1373 (show q_I d1396 = q_I r1365.2 by rw [e1397]; rfl)
                  have v1405 : q_V d1396 = q_V δ := ((show q_V d1396 = q_V r1365.2 by rw [e1397]; rfl)).trans v1374
                  have v1406 := kr_s L (by decide) v1375 e1397
                  have f1410 := cb_12_24 i1398 k_a0
                  have f1411 : (q_I d1396 12 24 a0).toInt = (q_I r1365.2 12 24 a0).toInt := congrArg Int32.toInt (by rw [e1397]; rfl)
                  first | (have q1413 := te_addc (c := 1) (n := 1) rfl (q_I d1396 12 24 a0) (by omega) (by omega); obtain ⟨f1414, f1415, f1416⟩ := q1413) | (obtain ⟨q1413, f1414, f1415, f1416⟩ := ti_addc (c := 1) (n := 1) rfl (q_I d1396 12 24 a0))
                  refine ok_bdv (fun d1407 e1408 => ?_)
                  have i1409 : RI ad h.1 δ0 d1407 := by rw [e1408]; exact cs_12_24 L i1398 k_a0 (show 0 ≤ ((q_I d1396 12 24 a0) + (1 : Int32)).toInt by omega) (show ((q_I d1396 12 24 a0) + (1 : Int32)).toInt ≤ 4 by omega)
                  have u1417 := kp_I u1404 e1408
                  have v1418 : q_V d1407 = q_V δ := ((show q_V d1407 = q_V d1396 by rw [e1408]; rfl)).trans v1405
                  have v1419 := kr_N v1406 (show q_R d1407 = q_R d1396 by rw [e1408]; rfl)
                  unfold J_X12_thief_146
                  have ss1420 : NS ad a0 δ d1 := NS.t NS.r (NS.w e2 (by decide))
                  have ss1421 : NS0 ad a0 δ r1033.2 := NS0.t (NS.z ss1420) (NS.z ns1050)
                  have ss1422 : NS0 ad a0 δ r1063 := NS0.t ss1421 ns1083
                  have ns1424 : NS ad a0 d1109 r1115.2 := NS.t NS.r ns1144
                  have ns1425 : NS ad a0 d1109 r1155 := NS.t ns1424 ns1170
                  have ns1426 : NS ad a0 r1171 r1339.2 := NS.t NS.r ns1360
                  have ns1427 : NS ad a0 r1171 r1365.2 := NS.t ns1426 ns1378
                  have f1428 := cb_12_26 i1367 k_a0
                  have f1429 : (q_I r1365.2 12 26 a0).toInt = (q_I r1339.2 12 26 a0).toInt := congrArg Int32.toInt (u1369 12 26 a0 (by decide))
                  have f1430 := cb_12_26 i1341 k_a0
                  have f1431 : (q_I r1339.2 12 26 a0).toInt = (q_I r1171 12 26 a0).toInt := congrArg Int32.toInt (u1345 12 26 a0 (by decide))
                  have ss1423 : TK ad a0 δ d1407 := TK.good L ss1422 e1098 e1104 e1110 ns1425 p1215 (u1218 112 (by decide) (by decide) (by decide)) ns1427 (show (0 : Int) = 0 by omega) (show (0 : Int) = 0 by omega) (show (0 : Int) = 0 by omega) (by omega) e1397 e1408 (show (((q_I r1365.2 12 24 a0).toNatClampNeg : Nat) : Int) = (q_I δ 12 24 a0).toInt by omega) (show (q_I r1365.2 12 25 a0).toInt = (q_I r1365.2 12 25 a0).toInt by omega) (show ((q_I d1396 12 24 a0) + (1 : Int32)).toInt = (q_I δ 12 24 a0).toInt + 1 by omega) (show (q_I r1365.2 12 5 a0).toInt = -1 by omega) (show (q_I r1365.2 12 26 a0).toInt ≤ 500 by omega)
                  have f1432 := cb_12_2 i1409 k_a0
                  have f1433 : (q_I d1407 12 2 a0).toInt = (q_I d1396 12 2 a0).toInt := congrArg Int32.toInt (by rw [e1408]; exact rI_o (by decide))
                  have f1434 := cb_12_2 i1398 k_a0
                  have f1435 : (q_I d1396 12 2 a0).toInt = (q_I r1365.2 12 2 a0).toInt := congrArg Int32.toInt (by rw [e1397]; rfl)
                  have f1436 := cb_12_2 i1367 k_a0
                  have f1437 : (q_I r1365.2 12 2 a0).toInt = (q_I r1339.2 12 2 a0).toInt := congrArg Int32.toInt (u1369 12 2 a0 (by decide))
                  have f1438 := cb_12_2 i1341 k_a0
                  have f1439 : (q_I r1339.2 12 2 a0).toInt = (q_I r1171 12 2 a0).toInt := congrArg Int32.toInt (u1345 12 2 a0 (by decide))
                  have f1440 := cb_12_2 i1209 k_a0
                  have f1441 : (q_I r1171 12 2 a0).toInt = (q_I r1155 12 2 a0).toInt := congrArg Int32.toInt (u1216 12 2 a0 (by decide))
                  have f1442 := cb_12_2 i1159 k_a0
                  have f1443 : (q_I r1155 12 2 a0).toInt = (q_I r1115.2 12 2 a0).toInt := congrArg Int32.toInt (u1162 12 2 a0 (by decide))
                  have f1444 := cb_12_2 i1117 k_a0
                  have f1445 : (q_I r1115.2 12 2 a0).toInt = (q_I d1109 12 2 a0).toInt := congrArg Int32.toInt (u1121 12 2 a0 (by decide))
                  have f1446 := cb_12_2 i1111 k_a0
                  have f1447 : (q_I d1109 12 2 a0).toInt = (q_I d1103 12 2 a0).toInt := congrArg Int32.toInt (by rw [e1110]; exact rI_o (by decide))
                  have f1448 := cb_12_2 i1105 k_a0
                  have f1449 : (q_I d1103 12 2 a0).toInt = (q_I d1097 12 2 a0).toInt := congrArg Int32.toInt (by rw [e1104]; exact rI_o (by decide))
                  have f1450 := cb_12_2 i1099 k_a0
                  have f1451 : (q_I d1097 12 2 a0).toInt = (q_I r1063 12 2 a0).toInt := congrArg Int32.toInt (by rw [e1098]; exact rI_o (by decide))
                  exact ok_some (show RI ad h.1 δ0 d1407 ∧ (kp [(12, 0), (12, 2), (12, 3), (12, 4), (12, 5), (12, 6), (12, 7), (12, 8), (12, 24), (12, 25), (12, 26), (12, 27)] δ d1407 ∧ q_V d1407 = q_V δ ∧ kr ad [100, 112, 113, 114, 115, 116, 117] δ d1407) ∧ TK ad a0 δ d1407 ∧ (0 ≤ (x1).toInt ∧ (x1).toInt ≤ (q_I δ 12 2 a0).toInt → (q_I d1407 12 2 a0).toInt = 0) ∧ ((x1).toInt < 0 ∨ (q_I δ 12 2 a0).toInt < (x1).toInt → (q_I d1407 12 2 a0).toInt = (q_I δ 12 2 a0).toInt) from ⟨i1409, ⟨kp_w (by decide) u1417, v1418, kr_w (by decide) v1419⟩, ss1423, by first | assumption | omega, by first | assumption | omega⟩)
                · have c1452 : r1365.1.toInt ≠ (q_I r1365.2 12 24 a0).toInt := o_ne h1387
                  unfold J_X12_thief_146
                  have ss1453 : NS ad a0 δ d1 := NS.t NS.r (NS.w e2 (by decide))
                  have ss1454 : NS0 ad a0 δ r1033.2 := NS0.t (NS.z ss1453) (NS.z ns1050)
                  have ss1455 : NS0 ad a0 δ r1063 := NS0.t ss1454 ns1083
                  have ns1457 : NS ad a0 d1109 r1115.2 := NS.t NS.r ns1144
                  have ns1458 : NS ad a0 d1109 r1155 := NS.t ns1457 ns1170
                  have ns1459 : NS ad a0 r1171 r1339.2 := NS.t NS.r ns1360
                  have ns1460 : NS ad a0 r1171 r1365.2 := NS.t ns1459 ns1378
                  have ss1456 : TK ad a0 δ r1365.2 := TK.bad L ss1455 e1098 e1104 e1110 ns1458 p1215 (u1218 112 (by decide) (by decide) (by decide)) ns1460 (show (0 : Int) = 0 by omega) (show (0 : Int) = 0 by omega) (show (0 : Int) = 0 by omega) (by omega)
                  have f1461 := cb_12_2 i1367 k_a0
                  have f1462 : (q_I r1365.2 12 2 a0).toInt = (q_I r1339.2 12 2 a0).toInt := congrArg Int32.toInt (u1369 12 2 a0 (by decide))
                  have f1463 := cb_12_2 i1341 k_a0
                  have f1464 : (q_I r1339.2 12 2 a0).toInt = (q_I r1171 12 2 a0).toInt := congrArg Int32.toInt (u1345 12 2 a0 (by decide))
                  have f1465 := cb_12_2 i1209 k_a0
                  have f1466 : (q_I r1171 12 2 a0).toInt = (q_I r1155 12 2 a0).toInt := congrArg Int32.toInt (u1216 12 2 a0 (by decide))
                  have f1467 := cb_12_2 i1159 k_a0
                  have f1468 : (q_I r1155 12 2 a0).toInt = (q_I r1115.2 12 2 a0).toInt := congrArg Int32.toInt (u1162 12 2 a0 (by decide))
                  have f1469 := cb_12_2 i1117 k_a0
                  have f1470 : (q_I r1115.2 12 2 a0).toInt = (q_I d1109 12 2 a0).toInt := congrArg Int32.toInt (u1121 12 2 a0 (by decide))
                  have f1471 := cb_12_2 i1111 k_a0
                  have f1472 : (q_I d1109 12 2 a0).toInt = (q_I d1103 12 2 a0).toInt := congrArg Int32.toInt (by rw [e1110]; exact rI_o (by decide))
                  have f1473 := cb_12_2 i1105 k_a0
                  have f1474 : (q_I d1103 12 2 a0).toInt = (q_I d1097 12 2 a0).toInt := congrArg Int32.toInt (by rw [e1104]; exact rI_o (by decide))
                  have f1475 := cb_12_2 i1099 k_a0
                  have f1476 : (q_I d1097 12 2 a0).toInt = (q_I r1063 12 2 a0).toInt := congrArg Int32.toInt (by rw [e1098]; exact rI_o (by decide))
                  exact ok_some (show RI ad h.1 δ0 r1365.2 ∧ (kp [(12, 0), (12, 2), (12, 3), (12, 4), (12, 5), (12, 6), (12, 7), (12, 8), (12, 24), (12, 25), (12, 26), (12, 27)] δ r1365.2 ∧ q_V r1365.2 = q_V δ ∧ kr ad [100, 112, 113, 114, 115, 116, 117] δ r1365.2) ∧ TK ad a0 δ r1365.2 ∧ (0 ≤ (x1).toInt ∧ (x1).toInt ≤ (q_I δ 12 2 a0).toInt → (q_I r1365.2 12 2 a0).toInt = 0) ∧ ((x1).toInt < 0 ∨ (q_I δ 12 2 a0).toInt < (x1).toInt → (q_I r1365.2 12 2 a0).toInt = (q_I δ 12 2 a0).toInt) from ⟨i1367, ⟨kp_w (by decide) u1373, v1374, kr_w (by decide) v1375⟩, ss1456, by first | assumption | omega, by first | assumption | omega⟩)
              · have c1477 : r1339.1.toInt ≠ (0 : Int) := o_ne h1363
                refine ok_bind (k_X12_wrong L hN (a0 := a0) (x1 := (1 : Int32)) (x2 := (q_I r1339.2 12 4 a0)) k_a0 (show 0 ≤ ((q_I r1339.2 12 4 a0)).toInt by first | assumption | omega) (show ((q_I r1339.2 12 4 a0)).toInt ≤ 500 by first | assumption | omega) (show 0 ≤ (1 : Int) by first | assumption | omega) (show (1 : Int) ≤ 4 by first | assumption | omega) i1341) (fun r1478 hr1479 => ?_)
                obtain ⟨i1480, ⟨u1483, u1484, u1485, u1486⟩, p1481, p1482⟩ := hr1479
                have u1487 := kp_t u1349 u1483
                have v1488 : q_V r1478 = q_V δ := (u1484).trans v1350
                have v1489 := kr_t v1351 u1486
                have f1490 := cb_12_5 i1480 k_a0
                have ns1491 : NS ad a0 r1339.2 r1478 := ⟨u1486 112 (by decide) (by decide) (by decide), u1486 113 (by decide) (by decide) (by decide), u1486 114 (by decide) (by decide) (by decide), u1486 115 (by decide) (by decide) (by decide), u1486 116 (by decide) (by decide) (by decide), u1483 12 24 _ (by decide), u1483 12 25 _ (by decide), u1483 12 26 _ (by decide), u1483 12 27 _ (by decide), fun z => by omega⟩
                unfold J_X12_thief_106
                refine ok_bind (k_X12_result L hN (a0 := a0) (x1 := (q_I r1478 12 24 a0)) k_a0 i1480) (fun r1492 hr1493 => ?_)
                obtain ⟨i1494, ⟨u1496, u1497, u1498, u1499⟩, p1495⟩ := hr1493
                have u1500 := kp_t u1487 u1496
                have v1501 : q_V r1492.2 = q_V δ := (u1497).trans v1488
                have v1502 := kr_t v1489 u1499
                have f1503 := ti_b r1492.1
                have f1504 := ti_b r1492.1
                have f1506 := cb_12_5 i1494 k_a0
                have f1507 : (q_I r1492.2 12 5 a0).toInt = (q_I r1478 12 5 a0).toInt := congrArg Int32.toInt (u1496 12 5 a0 (by decide))
                have ns1505 : NS ad a0 r1478 r1492.2 := ⟨u1499 112 (by decide) (by decide) (by decide), u1499 113 (by decide) (by decide) (by decide), u1499 114 (by decide) (by decide) (by decide), u1499 115 (by decide) (by decide) (by decide), u1499 116 (by decide) (by decide) (by decide), u1496 12 24 _ (by decide), u1496 12 25 _ (by decide), u1496 12 26 _ (by decide), u1496 12 27 _ (by decide), fun z => by omega⟩
                have f1508 := cb_12_24 i1494 k_a0
                have f1509 : (q_I r1492.2 12 24 a0).toInt = (q_I r1478 12 24 a0).toInt := congrArg Int32.toInt (u1496 12 24 a0 (by decide))
                have f1510 := cb_12_24 i1480 k_a0
                have f1511 : (q_I r1478 12 24 a0).toInt = (q_I r1339.2 12 24 a0).toInt := congrArg Int32.toInt (u1483 12 24 a0 (by decide))
                have f1512 := cb_12_24 i1341 k_a0
                have f1513 : (q_I r1339.2 12 24 a0).toInt = (q_I r1171 12 24 a0).toInt := congrArg Int32.toInt (u1345 12 24 a0 (by decide))
                have f1514 := cb_12_24 i1209 k_a0
                have f1515 : (q_I r1171 12 24 a0).toInt = (q_I r1155 12 24 a0).toInt := congrArg Int32.toInt (u1216 12 24 a0 (by decide))
                refine ok_ite (fun h1516 => ?_) (fun h1516 => ?_)
                · have c1517 : r1492.1.toInt = (q_I r1492.2 12 24 a0).toInt := o_eq h1516
                  obtain ⟨b1518, o1519, k1520, n1521⟩ := gO_12_28 L k_a0
                  obtain rfl := gS_12_28 L k_a0 o1519
                  refine ok_at o1519 ?_
                  have t1522 := ti_tn (q_I r1492.2 12 24 a0)
                  refine ok_gd (fun hc1523 => ?_) ?_
                  · rcases hc1523 with hc1523 | hc1523
                    · have c1524 : (q_I r1492.2 12 24 a0).toInt < (0 : Int) := o_lt hc1523
                      omega
                    · omega
                  have f1528 := cb_12_25 i1494 k_a0
                  have f1529 : (q_I r1492.2 12 25 a0).toInt = (q_I r1478 12 25 a0).toInt := congrArg Int32.toInt (u1496 12 25 a0 (by decide))
                  have f1530 := cb_12_25 i1480 k_a0
                  have f1531 : (q_I r1478 12 25 a0).toInt = (q_I r1339.2 12 25 a0).toInt := congrArg Int32.toInt (u1483 12 25 a0 (by decide))
                  have f1532 := cb_12_25 i1341 k_a0
                  have f1533 : (q_I r1339.2 12 25 a0).toInt = (q_I r1171 12 25 a0).toInt := congrArg Int32.toInt (u1345 12 25 a0 (by decide))
                  have f1534 := cb_12_25 i1209 k_a0
                  refine ok_bdv (fun d1525 e1526 => ?_)
                  have i1527 : RI ad h.1 δ0 d1525 := by rw [e1526]; exact cr_112 L i1494 (show 0 ≤ (q_I r1492.2 12 25 a0).toInt by omega) (show (q_I r1492.2 12 25 a0).toInt ≤ 60 by omega)
                  have u1535 := kp_N u1500 (show q_I d1525 = q_I r1492.2 by rw [e1526]; rfl)
                  have v1536 : q_V d1525 = q_V δ := ((show q_V d1525 = q_V r1492.2 by rw [e1526]; rfl)).trans v1501
                  have v1537 := kr_s L (by decide) v1502 e1526
                  have f1541 := cb_12_24 i1527 k_a0
                  have f1542 : (q_I d1525 12 24 a0).toInt = (q_I r1492.2 12 24 a0).toInt := congrArg Int32.toInt (by rw [e1526]; rfl)
                  first | (have q1544 := te_addc (c := 1) (n := 1) rfl (q_I d1525 12 24 a0) (by omega) (by omega); obtain ⟨f1545, f1546, f1547⟩ := q1544) | (obtain ⟨q1544, f1545, f1546, f1547⟩ := ti_addc (c := 1) (n := 1) rfl (q_I d1525 12 24 a0))
                  refine ok_bdv (fun d1538 e1539 => ?_)
                  have i1540 : RI ad h.1 δ0 d1538 := by rw [e1539]; exact cs_12_24 L i1527 k_a0 (show 0 ≤ ((q_I d1525 12 24 a0) + (1 : Int32)).toInt by omega) (show ((q_I d1525 12 24 a0) + (1 : Int32)).toInt ≤ 4 by omega)
                  have u1548 := kp_I u1535 e1539
                  have v1549 : q_V d1538 = q_V δ := ((show q_V d1538 = q_V d1525 by rw [e1539]; rfl)).trans v1536
                  have v1550 := kr_N v1537 (show q_R d1538 = q_R d1525 by rw [e1539]; rfl)
                  unfold J_X12_thief_146
                  have ss1551 : NS ad a0 δ d1 := NS.t NS.r (NS.w e2 (by decide))
                  have ss1552 : NS0 ad a0 δ r1033.2 := NS0.t (NS.z ss1551) (NS.z ns1050)
                  have ss1553 : NS0 ad a0 δ r1063 := NS0.t ss1552 ns1083
                  have ns1555 : NS ad a0 d1109 r1115.2 := NS.t NS.r ns1144
                  have ns1556 : NS ad a0 d1109 r1155 := NS.t ns1555 ns1170
                  have ns1557 : NS ad a0 r1171 r1339.2 := NS.t NS.r ns1360
                  have ns1558 : NS ad a0 r1171 r1478 := NS.t ns1557 ns1491
                  have ns1559 : NS ad a0 r1171 r1492.2 := NS.t ns1558 ns1505
                  have f1560 := cb_12_26 i1494 k_a0
                  have f1561 : (q_I r1492.2 12 26 a0).toInt = (q_I r1478 12 26 a0).toInt := congrArg Int32.toInt (u1496 12 26 a0 (by decide))
                  have f1562 := cb_12_26 i1480 k_a0
                  have f1563 : (q_I r1478 12 26 a0).toInt = (q_I r1339.2 12 26 a0).toInt := congrArg Int32.toInt (u1483 12 26 a0 (by decide))
                  have f1564 := cb_12_26 i1341 k_a0
                  have f1565 : (q_I r1339.2 12 26 a0).toInt = (q_I r1171 12 26 a0).toInt := congrArg Int32.toInt (u1345 12 26 a0 (by decide))
                  have ss1554 : TK ad a0 δ d1538 := TK.good L ss1553 e1098 e1104 e1110 ns1556 p1215 (u1218 112 (by decide) (by decide) (by decide)) ns1559 (show (0 : Int) = 0 by omega) (show (0 : Int) = 0 by omega) (show (0 : Int) = 0 by omega) (by omega) e1526 e1539 (show (((q_I r1492.2 12 24 a0).toNatClampNeg : Nat) : Int) = (q_I δ 12 24 a0).toInt by omega) (show (q_I r1492.2 12 25 a0).toInt = (q_I r1492.2 12 25 a0).toInt by omega) (show ((q_I d1525 12 24 a0) + (1 : Int32)).toInt = (q_I δ 12 24 a0).toInt + 1 by omega) (show (q_I r1492.2 12 5 a0).toInt = -1 by omega) (show (q_I r1492.2 12 26 a0).toInt ≤ 500 by omega)
                  have f1566 := cb_12_2 i1540 k_a0
                  have f1567 : (q_I d1538 12 2 a0).toInt = (q_I d1525 12 2 a0).toInt := congrArg Int32.toInt (by rw [e1539]; exact rI_o (by decide))
                  have f1568 := cb_12_2 i1527 k_a0
                  have f1569 : (q_I d1525 12 2 a0).toInt = (q_I r1492.2 12 2 a0).toInt := congrArg Int32.toInt (by rw [e1526]; rfl)
                  have f1570 := cb_12_2 i1494 k_a0
                  have f1571 : (q_I r1492.2 12 2 a0).toInt = (q_I r1478 12 2 a0).toInt := congrArg Int32.toInt (u1496 12 2 a0 (by decide))
                  have f1572 := cb_12_2 i1480 k_a0
                  have f1573 : (q_I r1478 12 2 a0).toInt = (q_I r1339.2 12 2 a0).toInt := congrArg Int32.toInt (u1483 12 2 a0 (by decide))
                  have f1574 := cb_12_2 i1341 k_a0
                  have f1575 : (q_I r1339.2 12 2 a0).toInt = (q_I r1171 12 2 a0).toInt := congrArg Int32.toInt (u1345 12 2 a0 (by decide))
                  have f1576 := cb_12_2 i1209 k_a0
                  have f1577 : (q_I r1171 12 2 a0).toInt = (q_I r1155 12 2 a0).toInt := congrArg Int32.toInt (u1216 12 2 a0 (by decide))
                  have f1578 := cb_12_2 i1159 k_a0
                  have f1579 : (q_I r1155 12 2 a0).toInt = (q_I r1115.2 12 2 a0).toInt := congrArg Int32.toInt (u1162 12 2 a0 (by decide))
                  have f1580 := cb_12_2 i1117 k_a0
                  have f1581 : (q_I r1115.2 12 2 a0).toInt = (q_I d1109 12 2 a0).toInt := congrArg Int32.toInt (u1121 12 2 a0 (by decide))
                  have f1582 := cb_12_2 i1111 k_a0
                  have f1583 : (q_I d1109 12 2 a0).toInt = (q_I d1103 12 2 a0).toInt := congrArg Int32.toInt (by rw [e1110]; exact rI_o (by decide))
                  have f1584 := cb_12_2 i1105 k_a0
                  have f1585 : (q_I d1103 12 2 a0).toInt = (q_I d1097 12 2 a0).toInt := congrArg Int32.toInt (by rw [e1104]; exact rI_o (by decide))
                  have f1586 := cb_12_2 i1099 k_a0
                  have f1587 : (q_I d1097 12 2 a0).toInt = (q_I r1063 12 2 a0).toInt := congrArg Int32.toInt (by rw [e1098]; exact rI_o (by decide))
                  exact ok_some (show RI ad h.1 δ0 d1538 ∧ (kp [(12, 0), (12, 2), (12, 3), (12, 4), (12, 5), (12, 6), (12, 7), (12, 8), (12, 24), (12, 25), (12, 26), (12, 27)] δ d1538 ∧ q_V d1538 = q_V δ ∧ kr ad [100, 112, 113, 114, 115, 116, 117] δ d1538) ∧ TK ad a0 δ d1538 ∧ (0 ≤ (x1).toInt ∧ (x1).toInt ≤ (q_I δ 12 2 a0).toInt → (q_I d1538 12 2 a0).toInt = 0) ∧ ((x1).toInt < 0 ∨ (q_I δ 12 2 a0).toInt < (x1).toInt → (q_I d1538 12 2 a0).toInt = (q_I δ 12 2 a0).toInt) from ⟨i1540, ⟨kp_w (by decide) u1548, v1549, kr_w (by decide) v1550⟩, ss1554, by first | assumption | omega, by first | assumption | omega⟩)
                · have c1588 : r1492.1.toInt ≠ (q_I r1492.2 12 24 a0).toInt := o_ne h1516
                  unfold J_X12_thief_146
                  have ss1589 : NS ad a0 δ d1 := NS.t NS.r (NS.w e2 (by decide))
                  have ss1590 : NS0 ad a0 δ r1033.2 := NS0.t (NS.z ss1589) (NS.z ns1050)
                  have ss1591 : NS0 ad a0 δ r1063 := NS0.t ss1590 ns1083
                  have ns1593 : NS ad a0 d1109 r1115.2 := NS.t NS.r ns1144
                  have ns1594 : NS ad a0 d1109 r1155 := NS.t ns1593 ns1170
                  have ns1595 : NS ad a0 r1171 r1339.2 := NS.t NS.r ns1360
                  have ns1596 : NS ad a0 r1171 r1478 := NS.t ns1595 ns1491
                  have ns1597 : NS ad a0 r1171 r1492.2 := NS.t ns1596 ns1505
                  have ss1592 : TK ad a0 δ r1492.2 := TK.bad L ss1591 e1098 e1104 e1110 ns1594 p1215 (u1218 112 (by decide) (by decide) (by decide)) ns1597 (show (0 : Int) = 0 by omega) (show (0 : Int) = 0 by omega) (show (0 : Int) = 0 by omega) (by omega)
                  have f1598 := cb_12_2 i1494 k_a0
                  have f1599 : (q_I r1492.2 12 2 a0).toInt = (q_I r1478 12 2 a0).toInt := congrArg Int32.toInt (u1496 12 2 a0 (by decide))
                  have f1600 := cb_12_2 i1480 k_a0
                  have f1601 : (q_I r1478 12 2 a0).toInt = (q_I r1339.2 12 2 a0).toInt := congrArg Int32.toInt (u1483 12 2 a0 (by decide))
                  have f1602 := cb_12_2 i1341 k_a0
                  have f1603 : (q_I r1339.2 12 2 a0).toInt = (q_I r1171 12 2 a0).toInt := congrArg Int32.toInt (u1345 12 2 a0 (by decide))
                  have f1604 := cb_12_2 i1209 k_a0
                  have f1605 : (q_I r1171 12 2 a0).toInt = (q_I r1155 12 2 a0).toInt := congrArg Int32.toInt (u1216 12 2 a0 (by decide))
                  have f1606 := cb_12_2 i1159 k_a0
                  have f1607 : (q_I r1155 12 2 a0).toInt = (q_I r1115.2 12 2 a0).toInt := congrArg Int32.toInt (u1162 12 2 a0 (by decide))
                  have f1608 := cb_12_2 i1117 k_a0
                  have f1609 : (q_I r1115.2 12 2 a0).toInt = (q_I d1109 12 2 a0).toInt := congrArg Int32.toInt (u1121 12 2 a0 (by decide))
                  have f1610 := cb_12_2 i1111 k_a0
                  have f1611 : (q_I d1109 12 2 a0).toInt = (q_I d1103 12 2 a0).toInt := congrArg Int32.toInt (by rw [e1110]; exact rI_o (by decide))
                  have f1612 := cb_12_2 i1105 k_a0
                  have f1613 : (q_I d1103 12 2 a0).toInt = (q_I d1097 12 2 a0).toInt := congrArg Int32.toInt (by rw [e1104]; exact rI_o (by decide))
                  have f1614 := cb_12_2 i1099 k_a0
                  have f1615 : (q_I d1097 12 2 a0).toInt = (q_I r1063 12 2 a0).toInt := congrArg Int32.toInt (by rw [e1098]; exact rI_o (by decide))
                  exact ok_some (show RI ad h.1 δ0 r1492.2 ∧ (kp [(12, 0), (12, 2), (12, 3), (12, 4), (12, 5), (12, 6), (12, 7), (12, 8), (12, 24), (12, 25), (12, 26), (12, 27)] δ r1492.2 ∧ q_V r1492.2 = q_V δ ∧ kr ad [100, 112, 113, 114, 115, 116, 117] δ r1492.2) ∧ TK ad a0 δ r1492.2 ∧ (0 ≤ (x1).toInt ∧ (x1).toInt ≤ (q_I δ 12 2 a0).toInt → (q_I r1492.2 12 2 a0).toInt = 0) ∧ ((x1).toInt < 0 ∨ (q_I δ 12 2 a0).toInt < (x1).toInt → (q_I r1492.2 12 2 a0).toInt = (q_I δ 12 2 a0).toInt) from ⟨i1494, ⟨kp_w (by decide) u1500, v1501, kr_w (by decide) v1502⟩, ss1592, by first | assumption | omega, by first | assumption | omega⟩)
          · have c1616 : r1115.1.toInt ≠ (0 : Int) := o_ne h1153
            unfold J_X12_thief_79
            have f1619 := cb_12_24 i1117 k_a0
            have f1620 : (q_I r1115.2 12 24 a0).toInt = (q_I d1109 12 24 a0).toInt := congrArg Int32.toInt (u1121 12 24 a0 (by decide))
            have f1621 := cb_12_24 i1111 k_a0
            have f1622 : (q_I d1109 12 24 a0).toInt = (q_I d1103 12 24 a0).toInt := congrArg Int32.toInt (by rw [e1110]; exact rI_o (by decide))
            have f1623 := cb_12_24 i1105 k_a0
            have f1624 : (q_I d1103 12 24 a0).toInt = (q_I d1097 12 24 a0).toInt := congrArg Int32.toInt (by rw [e1104]; exact rI_o (by decide))
            have f1625 := cb_12_24 i1099 k_a0
            have f1626 : (q_I d1097 12 24 a0).toInt = (q_I r1063 12 24 a0).toInt := congrArg Int32.toInt (by rw [e1098]; exact rI_o (by decide))
            have f1627 := cb_12_26 i1117 k_a0
            have f1628 : (q_I r1115.2 12 26 a0).toInt = (q_I d1109 12 26 a0).toInt := congrArg Int32.toInt (u1121 12 26 a0 (by decide))
            have f1629 := cb_12_26 i1111 k_a0
            have f1630 : (q_I d1109 12 26 a0).toInt = (q_I d1103 12 26 a0).toInt := congrArg Int32.toInt (by rw [e1110]; exact rI_o (by decide))
            have f1631 := cb_12_26 i1105 k_a0
            have f1632 : (q_I d1103 12 26 a0).toInt = (0 : Int) := congrArg Int32.toInt (show q_I d1103 12 26 a0 = (0 : Int32) by rw [e1104]; exact rI_s)
            have f1633 := ti_b (q_I r1115.2 12 7 a0)
            have f1634 : (q_I r1115.2 12 7 a0).toInt = (q_I d1109 12 7 a0).toInt := congrArg Int32.toInt (u1121 12 7 a0 (by decide))
            have f1635 := ti_b (q_I d1109 12 7 a0)
            have f1636 : (q_I d1109 12 7 a0).toInt = (q_I d1103 12 7 a0).toInt := congrArg Int32.toInt (by rw [e1110]; exact rI_o (by decide))
            have f1637 := ti_b (q_I d1103 12 7 a0)
            have f1638 : (q_I d1103 12 7 a0).toInt = (q_I d1097 12 7 a0).toInt := congrArg Int32.toInt (by rw [e1104]; exact rI_o (by decide))
            have f1639 := ti_b (q_I d1097 12 7 a0)
            have f1640 : (q_I d1097 12 7 a0).toInt = (q_I r1063 12 7 a0).toInt := congrArg Int32.toInt (by rw [e1098]; exact rI_o (by decide))
            have f1641 := cb_12_27 i1117 k_a0
            have f1642 : (q_I r1115.2 12 27 a0).toInt = (q_I d1109 12 27 a0).toInt := congrArg Int32.toInt (u1121 12 27 a0 (by decide))
            have f1643 := cb_12_27 i1111 k_a0
            have f1644 : (q_I d1109 12 27 a0).toInt = (0 : Int) := congrArg Int32.toInt (show q_I d1109 12 27 a0 = (0 : Int32) by rw [e1110]; exact rI_s)
            refine ok_bind (k_X12_readSteps L hN (a0 := a0) k_a0 (show (q_I r1115.2 12 24 a0).toInt ≤ 3 by first | assumption | omega) (show (q_I r1115.2 12 26 a0).toInt ≤ (q_I r1115.2 12 4 a0).toInt by first | assumption | omega) (show (q_I r1115.2 12 7 a0).toInt = 0 by first | assumption | omega) (show 4 - (q_I r1115.2 12 27 a0).toInt < 20 by first | assumption | omega) i1117) (fun r1617 hr1618 => ?_)
            obtain ⟨i1645, ⟨u1652, u1653, u1654⟩, p1646, p1647, p1648, p1649, p1650, p1651⟩ := hr1618
            have u1655 := kp_t u1125 u1652
            have v1656 : q_V r1617 = q_V δ := (u1653).trans v1126
            have v1657 := kr_t v1127 u1654
            have f1658 := cb_12_4 i1645 k_a0
            have f1659 := cb_12_5 i1645 k_a0
            have f1660 := ti_b (q_I r1617 12 7 a0)
            have f1661 := cb_12_27 i1645 k_a0
            have f1662 := cb_12_26 i1645 k_a0
            refine ok_bind (k_X12_fine L hN (a0 := a0) k_a0 i1645) (fun r1663 hr1664 => ?_)
            obtain ⟨i1665, p1666, p1667, p1668⟩ := hr1664
            try rw [i1665]
            have f1669 := bo_l p1666
            have f1670 := ti_b r1663.1
            have f1671 := ti_b r1663.1
            refine ok_ite (fun h1672 => ?_) (fun h1672 => ?_)
            · have c1673 : r1663.1.toInt = (0 : Int) := o_eq h1672
              unfold J_X12_thief_106
              refine ok_bind (k_X12_result L hN (a0 := a0) (x1 := (q_I r1617 12 24 a0)) k_a0 i1645) (fun r1674 hr1675 => ?_)
              obtain ⟨i1676, ⟨u1678, u1679, u1680, u1681⟩, p1677⟩ := hr1675
              have u1682 := kp_t u1655 u1678
              have v1683 : q_V r1674.2 = q_V δ := (u1679).trans v1656
              have v1684 := kr_t v1657 u1681
              have f1685 := ti_b r1674.1
              have f1686 := ti_b r1674.1
              have f1688 := cb_12_5 i1676 k_a0
              have f1689 : (q_I r1674.2 12 5 a0).toInt = (q_I r1617 12 5 a0).toInt := congrArg Int32.toInt (u1678 12 5 a0 (by decide))
              have ns1687 : NS ad a0 r1617 r1674.2 := ⟨u1681 112 (by decide) (by decide) (by decide), u1681 113 (by decide) (by decide) (by decide), u1681 114 (by decide) (by decide) (by decide), u1681 115 (by decide) (by decide) (by decide), u1681 116 (by decide) (by decide) (by decide), u1678 12 24 _ (by decide), u1678 12 25 _ (by decide), u1678 12 26 _ (by decide), u1678 12 27 _ (by decide), fun z => by omega⟩
              have f1690 := cb_12_24 i1676 k_a0
              have f1691 : (q_I r1674.2 12 24 a0).toInt = (q_I r1617 12 24 a0).toInt := congrArg Int32.toInt (u1678 12 24 a0 (by decide))
              have f1692 := cb_12_24 i1645 k_a0
              have f1693 : (q_I r1617 12 24 a0).toInt = (q_I r1115.2 12 24 a0).toInt := congrArg Int32.toInt (u1652 12 24 a0 (by decide))
              refine ok_ite (fun h1694 => ?_) (fun h1694 => ?_)
              · have c1695 : r1674.1.toInt = (q_I r1674.2 12 24 a0).toInt := o_eq h1694
                obtain ⟨b1696, o1697, k1698, n1699⟩ := gO_12_28 L k_a0
                obtain rfl := gS_12_28 L k_a0 o1697
                refine ok_at o1697 ?_
                have t1700 := ti_tn (q_I r1674.2 12 24 a0)
                refine ok_gd (fun hc1701 => ?_) ?_
                · rcases hc1701 with hc1701 | hc1701
                  · have c1702 : (q_I r1674.2 12 24 a0).toInt < (0 : Int) := o_lt hc1701
                    omega
                  · omega
                have f1706 := cb_12_25 i1676 k_a0
                have f1707 : (q_I r1674.2 12 25 a0).toInt = (q_I r1617 12 25 a0).toInt := congrArg Int32.toInt (u1678 12 25 a0 (by decide))
                have f1708 := cb_12_25 i1645 k_a0
                refine ok_bdv (fun d1703 e1704 => ?_)
                have i1705 : RI ad h.1 δ0 d1703 := by rw [e1704]; exact cr_112 L i1676 (show 0 ≤ (q_I r1674.2 12 25 a0).toInt by omega) (show (q_I r1674.2 12 25 a0).toInt ≤ 60 by omega)
                have u1709 := kp_N u1682 (show q_I d1703 = q_I r1674.2 by rw [e1704]; rfl)
                have v1710 : q_V d1703 = q_V δ := ((show q_V d1703 = q_V r1674.2 by rw [e1704]; rfl)).trans v1683
                have v1711 := kr_s L (by decide) v1684 e1704
                have f1715 := cb_12_24 i1705 k_a0
                have f1716 : (q_I d1703 12 24 a0).toInt = (q_I r1674.2 12 24 a0).toInt := congrArg Int32.toInt (by rw [e1704]; rfl)
                first | (have q1718 := te_addc (c := 1) (n := 1) rfl (q_I d1703 12 24 a0) (by omega) (by omega); obtain ⟨f1719, f1720, f1721⟩ := q1718) | (obtain ⟨q1718, f1719, f1720, f1721⟩ := ti_addc (c := 1) (n := 1) rfl (q_I d1703 12 24 a0))
                refine ok_bdv (fun d1712 e1713 => ?_)
                have i1714 : RI ad h.1 δ0 d1712 := by rw [e1713]; exact cs_12_24 L i1705 k_a0 (show 0 ≤ ((q_I d1703 12 24 a0) + (1 : Int32)).toInt by omega) (show ((q_I d1703 12 24 a0) + (1 : Int32)).toInt ≤ 4 by omega)
                have u1722 := kp_I u1709 e1713
                have v1723 : q_V d1712 = q_V δ := ((show q_V d1712 = q_V d1703 by rw [e1713]; rfl)).trans v1710
                have v1724 := kr_N v1711 (show q_R d1712 = q_R d1703 by rw [e1713]; rfl)
                unfold J_X12_thief_146
                have ss1725 : NS ad a0 δ d1 := NS.t NS.r (NS.w e2 (by decide))
                have ss1726 : NS0 ad a0 δ r1033.2 := NS0.t (NS.z ss1725) (NS.z ns1050)
                have ss1727 : NS0 ad a0 δ r1063 := NS0.t ss1726 ns1083
                have ns1729 : NS ad a0 d1109 r1115.2 := NS.t NS.r ns1144
                have ns1730 : NS ad a0 r1617 r1674.2 := NS.t NS.r ns1687
                have f1731 := cb_12_26 i1676 k_a0
                have f1732 : (q_I r1674.2 12 26 a0).toInt = (q_I r1617 12 26 a0).toInt := congrArg Int32.toInt (u1678 12 26 a0 (by decide))
                have ss1728 : TK ad a0 δ d1712 := TK.good L ss1727 e1098 e1104 e1110 ns1729 p1651 (u1654 112 (by decide) (by decide) (by decide)) ns1730 (show (0 : Int) = 0 by omega) (show (0 : Int) = 0 by omega) (show (0 : Int) = 0 by omega) (by omega) e1704 e1713 (show (((q_I r1674.2 12 24 a0).toNatClampNeg : Nat) : Int) = (q_I δ 12 24 a0).toInt by omega) (show (q_I r1674.2 12 25 a0).toInt = (q_I r1674.2 12 25 a0).toInt by omega) (show ((q_I d1703 12 24 a0) + (1 : Int32)).toInt = (q_I δ 12 24 a0).toInt + 1 by omega) (show (q_I r1674.2 12 5 a0).toInt = -1 by omega) (show (q_I r1674.2 12 26 a0).toInt ≤ 500 by omega)
                have f1733 := cb_12_2 i1714 k_a0
                have f1734 : (q_I d1712 12 2 a0).toInt = (q_I d1703 12 2 a0).toInt := congrArg Int32.toInt (by rw [e1713]; exact rI_o (by decide))
                have f1735 := cb_12_2 i1705 k_a0
                have f1736 : (q_I d1703 12 2 a0).toInt = (q_I r1674.2 12 2 a0).toInt := congrArg Int32.toInt (by rw [e1704]; rfl)
                have f1737 := cb_12_2 i1676 k_a0
                have f1738 : (q_I r1674.2 12 2 a0).toInt = (q_I r1617 12 2 a0).toInt := congrArg Int32.toInt (u1678 12 2 a0 (by decide))
                have f1739 := cb_12_2 i1645 k_a0
                have f1740 : (q_I r1617 12 2 a0).toInt = (q_I r1115.2 12 2 a0).toInt := congrArg Int32.toInt (u1652 12 2 a0 (by decide))
                have f1741 := cb_12_2 i1117 k_a0
                have f1742 : (q_I r1115.2 12 2 a0).toInt = (q_I d1109 12 2 a0).toInt := congrArg Int32.toInt (u1121 12 2 a0 (by decide))
                have f1743 := cb_12_2 i1111 k_a0
                have f1744 : (q_I d1109 12 2 a0).toInt = (q_I d1103 12 2 a0).toInt := congrArg Int32.toInt (by rw [e1110]; exact rI_o (by decide))
                have f1745 := cb_12_2 i1105 k_a0
                have f1746 : (q_I d1103 12 2 a0).toInt = (q_I d1097 12 2 a0).toInt := congrArg Int32.toInt (by rw [e1104]; exact rI_o (by decide))
                have f1747 := cb_12_2 i1099 k_a0
                have f1748 : (q_I d1097 12 2 a0).toInt = (q_I r1063 12 2 a0).toInt := congrArg Int32.toInt (by rw [e1098]; exact rI_o (by decide))
                exact ok_some (show RI ad h.1 δ0 d1712 ∧ (kp [(12, 0), (12, 2), (12, 3), (12, 4), (12, 5), (12, 6), (12, 7), (12, 8), (12, 24), (12, 25), (12, 26), (12, 27)] δ d1712 ∧ q_V d1712 = q_V δ ∧ kr ad [100, 112, 113, 114, 115, 116, 117] δ d1712) ∧ TK ad a0 δ d1712 ∧ (0 ≤ (x1).toInt ∧ (x1).toInt ≤ (q_I δ 12 2 a0).toInt → (q_I d1712 12 2 a0).toInt = 0) ∧ ((x1).toInt < 0 ∨ (q_I δ 12 2 a0).toInt < (x1).toInt → (q_I d1712 12 2 a0).toInt = (q_I δ 12 2 a0).toInt) from ⟨i1714, ⟨kp_w (by decide) u1722, v1723, kr_w (by decide) v1724⟩, ss1728, by first | assumption | omega, by first | assumption | omega⟩)
              · have c1749 : r1674.1.toInt ≠ (q_I r1674.2 12 24 a0).toInt := o_ne h1694
                unfold J_X12_thief_146
                have ss1750 : NS ad a0 δ d1 := NS.t NS.r (NS.w e2 (by decide))
                have ss1751 : NS0 ad a0 δ r1033.2 := NS0.t (NS.z ss1750) (NS.z ns1050)
                have ss1752 : NS0 ad a0 δ r1063 := NS0.t ss1751 ns1083
                have ns1754 : NS ad a0 d1109 r1115.2 := NS.t NS.r ns1144
                have ns1755 : NS ad a0 r1617 r1674.2 := NS.t NS.r ns1687
                have ss1753 : TK ad a0 δ r1674.2 := TK.bad L ss1752 e1098 e1104 e1110 ns1754 p1651 (u1654 112 (by decide) (by decide) (by decide)) ns1755 (show (0 : Int) = 0 by omega) (show (0 : Int) = 0 by omega) (show (0 : Int) = 0 by omega) (by omega)
                have f1756 := cb_12_2 i1676 k_a0
                have f1757 : (q_I r1674.2 12 2 a0).toInt = (q_I r1617 12 2 a0).toInt := congrArg Int32.toInt (u1678 12 2 a0 (by decide))
                have f1758 := cb_12_2 i1645 k_a0
                have f1759 : (q_I r1617 12 2 a0).toInt = (q_I r1115.2 12 2 a0).toInt := congrArg Int32.toInt (u1652 12 2 a0 (by decide))
                have f1760 := cb_12_2 i1117 k_a0
                have f1761 : (q_I r1115.2 12 2 a0).toInt = (q_I d1109 12 2 a0).toInt := congrArg Int32.toInt (u1121 12 2 a0 (by decide))
                have f1762 := cb_12_2 i1111 k_a0
                have f1763 : (q_I d1109 12 2 a0).toInt = (q_I d1103 12 2 a0).toInt := congrArg Int32.toInt (by rw [e1110]; exact rI_o (by decide))
                have f1764 := cb_12_2 i1105 k_a0
                have f1765 : (q_I d1103 12 2 a0).toInt = (q_I d1097 12 2 a0).toInt := congrArg Int32.toInt (by rw [e1104]; exact rI_o (by decide))
                have f1766 := cb_12_2 i1099 k_a0
                have f1767 : (q_I d1097 12 2 a0).toInt = (q_I r1063 12 2 a0).toInt := congrArg Int32.toInt (by rw [e1098]; exact rI_o (by decide))
                exact ok_some (show RI ad h.1 δ0 r1674.2 ∧ (kp [(12, 0), (12, 2), (12, 3), (12, 4), (12, 5), (12, 6), (12, 7), (12, 8), (12, 24), (12, 25), (12, 26), (12, 27)] δ r1674.2 ∧ q_V r1674.2 = q_V δ ∧ kr ad [100, 112, 113, 114, 115, 116, 117] δ r1674.2) ∧ TK ad a0 δ r1674.2 ∧ (0 ≤ (x1).toInt ∧ (x1).toInt ≤ (q_I δ 12 2 a0).toInt → (q_I r1674.2 12 2 a0).toInt = 0) ∧ ((x1).toInt < 0 ∨ (q_I δ 12 2 a0).toInt < (x1).toInt → (q_I r1674.2 12 2 a0).toInt = (q_I δ 12 2 a0).toInt) from ⟨i1676, ⟨kp_w (by decide) u1682, v1683, kr_w (by decide) v1684⟩, ss1753, by first | assumption | omega, by first | assumption | omega⟩)
            · have c1768 : r1663.1.toInt ≠ (0 : Int) := o_ne h1672
              refine ok_bind (k_X12_isMore L hN (a0 := a0) k_a0 i1645) (fun r1769 hr1770 => ?_)
              obtain ⟨i1771, ⟨u1775, u1776, u1777, u1778⟩, p1772, p1773, p1774⟩ := hr1770
              have u1779 := kp_t u1655 u1775
              have v1780 : q_V r1769.2 = q_V δ := (u1776).trans v1656
              have v1781 := kr_t v1657 u1778
              have f1782 := bo_l p1772
              have f1783 := cb_12_4 i1771 k_a0
              have f1784 := ti_b r1769.1
              have f1785 := cb_12_3 i1645 k_a0
              have f1786 : (q_I r1617 12 3 a0).toInt = (q_I r1115.2 12 3 a0).toInt := congrArg Int32.toInt (u1652 12 3 a0 (by decide))
              have f1787 := cb_12_3 i1117 k_a0
              have f1788 : (q_I r1115.2 12 3 a0).toInt = (q_I d1109 12 3 a0).toInt := congrArg Int32.toInt (u1121 12 3 a0 (by decide))
              have f1789 := ti_b r1769.1
              have f1791 := cb_12_5 i1771 k_a0
              have f1792 : (q_I r1769.2 12 5 a0).toInt = (q_I r1617 12 5 a0).toInt := congrArg Int32.toInt (u1775 12 5 a0 (by decide))
              have ns1790 : NS ad a0 r1617 r1769.2 := ⟨u1778 112 (by decide) (by decide) (by decide), u1778 113 (by decide) (by decide) (by decide), u1778 114 (by decide) (by decide) (by decide), u1778 115 (by decide) (by decide) (by decide), u1778 116 (by decide) (by decide) (by decide), u1775 12 24 _ (by decide), u1775 12 25 _ (by decide), u1775 12 26 _ (by decide), u1775 12 27 _ (by decide), fun z => by omega⟩
              refine ok_ite (fun h1793 => ?_) (fun h1793 => ?_)
              · have c1794 : r1769.1.toInt = (0 : Int) := o_eq h1793
                unfold J_X12_thief_106
                refine ok_bind (k_X12_result L hN (a0 := a0) (x1 := (q_I r1769.2 12 24 a0)) k_a0 i1771) (fun r1795 hr1796 => ?_)
                obtain ⟨i1797, ⟨u1799, u1800, u1801, u1802⟩, p1798⟩ := hr1796
                have u1803 := kp_t u1779 u1799
                have v1804 : q_V r1795.2 = q_V δ := (u1800).trans v1780
                have v1805 := kr_t v1781 u1802
                have f1806 := ti_b r1795.1
                have f1807 := ti_b r1795.1
                have f1809 := cb_12_5 i1797 k_a0
                have f1810 : (q_I r1795.2 12 5 a0).toInt = (q_I r1769.2 12 5 a0).toInt := congrArg Int32.toInt (u1799 12 5 a0 (by decide))
                have ns1808 : NS ad a0 r1769.2 r1795.2 := ⟨u1802 112 (by decide) (by decide) (by decide), u1802 113 (by decide) (by decide) (by decide), u1802 114 (by decide) (by decide) (by decide), u1802 115 (by decide) (by decide) (by decide), u1802 116 (by decide) (by decide) (by decide), u1799 12 24 _ (by decide), u1799 12 25 _ (by decide), u1799 12 26 _ (by decide), u1799 12 27 _ (by decide), fun z => by omega⟩
                have f1811 := cb_12_24 i1797 k_a0
                have f1812 : (q_I r1795.2 12 24 a0).toInt = (q_I r1769.2 12 24 a0).toInt := congrArg Int32.toInt (u1799 12 24 a0 (by decide))
                have f1813 := cb_12_24 i1771 k_a0
                have f1814 : (q_I r1769.2 12 24 a0).toInt = (q_I r1617 12 24 a0).toInt := congrArg Int32.toInt (u1775 12 24 a0 (by decide))
                have f1815 := cb_12_24 i1645 k_a0
                have f1816 : (q_I r1617 12 24 a0).toInt = (q_I r1115.2 12 24 a0).toInt := congrArg Int32.toInt (u1652 12 24 a0 (by decide))
                refine ok_ite (fun h1817 => ?_) (fun h1817 => ?_)
                · have c1818 : r1795.1.toInt = (q_I r1795.2 12 24 a0).toInt := o_eq h1817
                  obtain ⟨b1819, o1820, k1821, n1822⟩ := gO_12_28 L k_a0
                  obtain rfl := gS_12_28 L k_a0 o1820
                  refine ok_at o1820 ?_
                  have t1823 := ti_tn (q_I r1795.2 12 24 a0)
                  refine ok_gd (fun hc1824 => ?_) ?_
                  · rcases hc1824 with hc1824 | hc1824
                    · have c1825 : (q_I r1795.2 12 24 a0).toInt < (0 : Int) := o_lt hc1824
                      omega
                    · omega
                  have f1829 := cb_12_25 i1797 k_a0
                  have f1830 : (q_I r1795.2 12 25 a0).toInt = (q_I r1769.2 12 25 a0).toInt := congrArg Int32.toInt (u1799 12 25 a0 (by decide))
                  have f1831 := cb_12_25 i1771 k_a0
                  have f1832 : (q_I r1769.2 12 25 a0).toInt = (q_I r1617 12 25 a0).toInt := congrArg Int32.toInt (u1775 12 25 a0 (by decide))
                  have f1833 := cb_12_25 i1645 k_a0
                  refine ok_bdv (fun d1826 e1827 => ?_)
                  have i1828 : RI ad h.1 δ0 d1826 := by rw [e1827]; exact cr_112 L i1797 (show 0 ≤ (q_I r1795.2 12 25 a0).toInt by omega) (show (q_I r1795.2 12 25 a0).toInt ≤ 60 by omega)
                  have u1834 := kp_N u1803 (show q_I d1826 = q_I r1795.2 by rw [e1827]; rfl)
                  have v1835 : q_V d1826 = q_V δ := ((show q_V d1826 = q_V r1795.2 by rw [e1827]; rfl)).trans v1804
                  have v1836 := kr_s L (by decide) v1805 e1827
                  have f1840 := cb_12_24 i1828 k_a0
                  have f1841 : (q_I d1826 12 24 a0).toInt = (q_I r1795.2 12 24 a0).toInt := congrArg Int32.toInt (by rw [e1827]; rfl)
                  first | (have q1843 := te_addc (c := 1) (n := 1) rfl (q_I d1826 12 24 a0) (by omega) (by omega); obtain ⟨f1844, f1845, f1846⟩ := q1843) | (obtain ⟨q1843, f1844, f1845, f1846⟩ := ti_addc (c := 1) (n := 1) rfl (q_I d1826 12 24 a0))
                  refine ok_bdv (fun d1837 e1838 => ?_)
                  have i1839 : RI ad h.1 δ0 d1837 := by rw [e1838]; exact cs_12_24 L i1828 k_a0 (show 0 ≤ ((q_I d1826 12 24 a0) + (1 : Int32)).toInt by omega) (show ((q_I d1826 12 24 a0) + (1 : Int32)).toInt ≤ 4 by omega)
                  have u1847 := kp_I u1834 e1838
                  have v1848 : q_V d1837 = q_V δ := ((show q_V d1837 = q_V d1826 by rw [e1838]; rfl)).trans v1835
                  have v1849 := kr_N v1836 (show q_R d1837 = q_R d1826 by rw [e1838]; rfl)
                  unfold J_X12_thief_146
                  have ss1850 : NS ad a0 δ d1 := NS.t NS.r (NS.w e2 (by decide))
                  have ss1851 : NS0 ad a0 δ r1033.2 := NS0.t (NS.z ss1850) (NS.z ns1050)
                  have ss1852 : NS0 ad a0 δ r1063 := NS0.t ss1851 ns1083
                  have ns1854 : NS ad a0 d1109 r1115.2 := NS.t NS.r ns1144
                  have ns1855 : NS ad a0 r1617 r1769.2 := NS.t NS.r ns1790
                  have ns1856 : NS ad a0 r1617 r1795.2 := NS.t ns1855 ns1808
                  have f1857 := cb_12_26 i1797 k_a0
                  have f1858 : (q_I r1795.2 12 26 a0).toInt = (q_I r1769.2 12 26 a0).toInt := congrArg Int32.toInt (u1799 12 26 a0 (by decide))
                  have f1859 := cb_12_26 i1771 k_a0
                  have f1860 : (q_I r1769.2 12 26 a0).toInt = (q_I r1617 12 26 a0).toInt := congrArg Int32.toInt (u1775 12 26 a0 (by decide))
                  have ss1853 : TK ad a0 δ d1837 := TK.good L ss1852 e1098 e1104 e1110 ns1854 p1651 (u1654 112 (by decide) (by decide) (by decide)) ns1856 (show (0 : Int) = 0 by omega) (show (0 : Int) = 0 by omega) (show (0 : Int) = 0 by omega) (by omega) e1827 e1838 (show (((q_I r1795.2 12 24 a0).toNatClampNeg : Nat) : Int) = (q_I δ 12 24 a0).toInt by omega) (show (q_I r1795.2 12 25 a0).toInt = (q_I r1795.2 12 25 a0).toInt by omega) (show ((q_I d1826 12 24 a0) + (1 : Int32)).toInt = (q_I δ 12 24 a0).toInt + 1 by omega) (show (q_I r1795.2 12 5 a0).toInt = -1 by omega) (show (q_I r1795.2 12 26 a0).toInt ≤ 500 by omega)
                  have f1861 := cb_12_2 i1839 k_a0
                  have f1862 : (q_I d1837 12 2 a0).toInt = (q_I d1826 12 2 a0).toInt := congrArg Int32.toInt (by rw [e1838]; exact rI_o (by decide))
                  have f1863 := cb_12_2 i1828 k_a0
                  have f1864 : (q_I d1826 12 2 a0).toInt = (q_I r1795.2 12 2 a0).toInt := congrArg Int32.toInt (by rw [e1827]; rfl)
                  have f1865 := cb_12_2 i1797 k_a0
                  have f1866 : (q_I r1795.2 12 2 a0).toInt = (q_I r1769.2 12 2 a0).toInt := congrArg Int32.toInt (u1799 12 2 a0 (by decide))
                  have f1867 := cb_12_2 i1771 k_a0
                  have f1868 : (q_I r1769.2 12 2 a0).toInt = (q_I r1617 12 2 a0).toInt := congrArg Int32.toInt (u1775 12 2 a0 (by decide))
                  have f1869 := cb_12_2 i1645 k_a0
                  have f1870 : (q_I r1617 12 2 a0).toInt = (q_I r1115.2 12 2 a0).toInt := congrArg Int32.toInt (u1652 12 2 a0 (by decide))
                  have f1871 := cb_12_2 i1117 k_a0
                  have f1872 : (q_I r1115.2 12 2 a0).toInt = (q_I d1109 12 2 a0).toInt := congrArg Int32.toInt (u1121 12 2 a0 (by decide))
                  have f1873 := cb_12_2 i1111 k_a0
                  have f1874 : (q_I d1109 12 2 a0).toInt = (q_I d1103 12 2 a0).toInt := congrArg Int32.toInt (by rw [e1110]; exact rI_o (by decide))
                  have f1875 := cb_12_2 i1105 k_a0
                  have f1876 : (q_I d1103 12 2 a0).toInt = (q_I d1097 12 2 a0).toInt := congrArg Int32.toInt (by rw [e1104]; exact rI_o (by decide))
                  have f1877 := cb_12_2 i1099 k_a0
                  have f1878 : (q_I d1097 12 2 a0).toInt = (q_I r1063 12 2 a0).toInt := congrArg Int32.toInt (by rw [e1098]; exact rI_o (by decide))
                  exact ok_some (show RI ad h.1 δ0 d1837 ∧ (kp [(12, 0), (12, 2), (12, 3), (12, 4), (12, 5), (12, 6), (12, 7), (12, 8), (12, 24), (12, 25), (12, 26), (12, 27)] δ d1837 ∧ q_V d1837 = q_V δ ∧ kr ad [100, 112, 113, 114, 115, 116, 117] δ d1837) ∧ TK ad a0 δ d1837 ∧ (0 ≤ (x1).toInt ∧ (x1).toInt ≤ (q_I δ 12 2 a0).toInt → (q_I d1837 12 2 a0).toInt = 0) ∧ ((x1).toInt < 0 ∨ (q_I δ 12 2 a0).toInt < (x1).toInt → (q_I d1837 12 2 a0).toInt = (q_I δ 12 2 a0).toInt) from ⟨i1839, ⟨kp_w (by decide) u1847, v1848, kr_w (by decide) v1849⟩, ss1853, by first | assumption | omega, by first | assumption | omega⟩)
                · have c1879 : r1795.1.toInt ≠ (q_I r1795.2 12 24 a0).toInt := o_ne h1817
                  unfold J_X12_thief_146
                  have ss1880 : NS ad a0 δ d1 := NS.t NS.r (NS.w e2 (by decide))
                  have ss1881 : NS0 ad a0 δ r1033.2 := NS0.t (NS.z ss1880) (NS.z ns1050)
                  have ss1882 : NS0 ad a0 δ r1063 := NS0.t ss1881 ns1083
                  have ns1884 : NS ad a0 d1109 r1115.2 := NS.t NS.r ns1144
                  have ns1885 : NS ad a0 r1617 r1769.2 := NS.t NS.r ns1790
                  have ns1886 : NS ad a0 r1617 r1795.2 := NS.t ns1885 ns1808
                  have ss1883 : TK ad a0 δ r1795.2 := TK.bad L ss1882 e1098 e1104 e1110 ns1884 p1651 (u1654 112 (by decide) (by decide) (by decide)) ns1886 (show (0 : Int) = 0 by omega) (show (0 : Int) = 0 by omega) (show (0 : Int) = 0 by omega) (by omega)
                  have f1887 := cb_12_2 i1797 k_a0
                  have f1888 : (q_I r1795.2 12 2 a0).toInt = (q_I r1769.2 12 2 a0).toInt := congrArg Int32.toInt (u1799 12 2 a0 (by decide))
                  have f1889 := cb_12_2 i1771 k_a0
                  have f1890 : (q_I r1769.2 12 2 a0).toInt = (q_I r1617 12 2 a0).toInt := congrArg Int32.toInt (u1775 12 2 a0 (by decide))
                  have f1891 := cb_12_2 i1645 k_a0
                  have f1892 : (q_I r1617 12 2 a0).toInt = (q_I r1115.2 12 2 a0).toInt := congrArg Int32.toInt (u1652 12 2 a0 (by decide))
                  have f1893 := cb_12_2 i1117 k_a0
                  have f1894 : (q_I r1115.2 12 2 a0).toInt = (q_I d1109 12 2 a0).toInt := congrArg Int32.toInt (u1121 12 2 a0 (by decide))
                  have f1895 := cb_12_2 i1111 k_a0
                  have f1896 : (q_I d1109 12 2 a0).toInt = (q_I d1103 12 2 a0).toInt := congrArg Int32.toInt (by rw [e1110]; exact rI_o (by decide))
                  have f1897 := cb_12_2 i1105 k_a0
                  have f1898 : (q_I d1103 12 2 a0).toInt = (q_I d1097 12 2 a0).toInt := congrArg Int32.toInt (by rw [e1104]; exact rI_o (by decide))
                  have f1899 := cb_12_2 i1099 k_a0
                  have f1900 : (q_I d1097 12 2 a0).toInt = (q_I r1063 12 2 a0).toInt := congrArg Int32.toInt (by rw [e1098]; exact rI_o (by decide))
                  exact ok_some (show RI ad h.1 δ0 r1795.2 ∧ (kp [(12, 0), (12, 2), (12, 3), (12, 4), (12, 5), (12, 6), (12, 7), (12, 8), (12, 24), (12, 25), (12, 26), (12, 27)] δ r1795.2 ∧ q_V r1795.2 = q_V δ ∧ kr ad [100, 112, 113, 114, 115, 116, 117] δ r1795.2) ∧ TK ad a0 δ r1795.2 ∧ (0 ≤ (x1).toInt ∧ (x1).toInt ≤ (q_I δ 12 2 a0).toInt → (q_I r1795.2 12 2 a0).toInt = 0) ∧ ((x1).toInt < 0 ∨ (q_I δ 12 2 a0).toInt < (x1).toInt → (q_I r1795.2 12 2 a0).toInt = (q_I δ 12 2 a0).toInt) from ⟨i1797, ⟨kp_w (by decide) u1803, v1804, kr_w (by decide) v1805⟩, ss1883, by first | assumption | omega, by first | assumption | omega⟩)
              · have c1901 : r1769.1.toInt ≠ (0 : Int) := o_ne h1793
                refine ok_bind (k_X12_wrong L hN (a0 := a0) (x1 := (1 : Int32)) (x2 := (q_I r1769.2 12 4 a0)) k_a0 (show 0 ≤ ((q_I r1769.2 12 4 a0)).toInt by first | assumption | omega) (show ((q_I r1769.2 12 4 a0)).toInt ≤ 500 by first | assumption | omega) (show 0 ≤ (1 : Int) by first | assumption | omega) (show (1 : Int) ≤ 4 by first | assumption | omega) i1771) (fun r1902 hr1903 => ?_)
                obtain ⟨i1904, ⟨u1907, u1908, u1909, u1910⟩, p1905, p1906⟩ := hr1903
                have u1911 := kp_t u1779 u1907
                have v1912 : q_V r1902 = q_V δ := (u1908).trans v1780
                have v1913 := kr_t v1781 u1910
                have f1914 := cb_12_5 i1904 k_a0
                have ns1915 : NS ad a0 r1769.2 r1902 := ⟨u1910 112 (by decide) (by decide) (by decide), u1910 113 (by decide) (by decide) (by decide), u1910 114 (by decide) (by decide) (by decide), u1910 115 (by decide) (by decide) (by decide), u1910 116 (by decide) (by decide) (by decide), u1907 12 24 _ (by decide), u1907 12 25 _ (by decide), u1907 12 26 _ (by decide), u1907 12 27 _ (by decide), fun z => by omega⟩
                unfold J_X12_thief_106
                refine ok_bind (k_X12_result L hN (a0 := a0) (x1 := (q_I r1902 12 24 a0)) k_a0 i1904) (fun r1916 hr1917 => ?_)
                obtain ⟨i1918, ⟨u1920, u1921, u1922, u1923⟩, p1919⟩ := hr1917
                have u1924 := kp_t u1911 u1920
                have v1925 : q_V r1916.2 = q_V δ := (u1921).trans v1912
                have v1926 := kr_t v1913 u1923
                have f1927 := ti_b r1916.1
                have f1928 := ti_b r1916.1
                have f1930 := cb_12_5 i1918 k_a0
                have f1931 : (q_I r1916.2 12 5 a0).toInt = (q_I r1902 12 5 a0).toInt := congrArg Int32.toInt (u1920 12 5 a0 (by decide))
                have ns1929 : NS ad a0 r1902 r1916.2 := ⟨u1923 112 (by decide) (by decide) (by decide), u1923 113 (by decide) (by decide) (by decide), u1923 114 (by decide) (by decide) (by decide), u1923 115 (by decide) (by decide) (by decide), u1923 116 (by decide) (by decide) (by decide), u1920 12 24 _ (by decide), u1920 12 25 _ (by decide), u1920 12 26 _ (by decide), u1920 12 27 _ (by decide), fun z => by omega⟩
                have f1932 := cb_12_24 i1918 k_a0
                have f1933 : (q_I r1916.2 12 24 a0).toInt = (q_I r1902 12 24 a0).toInt := congrArg Int32.toInt (u1920 12 24 a0 (by decide))
                have f1934 := cb_12_24 i1904 k_a0
                have f1935 : (q_I r1902 12 24 a0).toInt = (q_I r1769.2 12 24 a0).toInt := congrArg Int32.toInt (u1907 12 24 a0 (by decide))
                have f1936 := cb_12_24 i1771 k_a0
                have f1937 : (q_I r1769.2 12 24 a0).toInt = (q_I r1617 12 24 a0).toInt := congrArg Int32.toInt (u1775 12 24 a0 (by decide))
                have f1938 := cb_12_24 i1645 k_a0
                have f1939 : (q_I r1617 12 24 a0).toInt = (q_I r1115.2 12 24 a0).toInt := congrArg Int32.toInt (u1652 12 24 a0 (by decide))
                refine ok_ite (fun h1940 => ?_) (fun h1940 => ?_)
                · have c1941 : r1916.1.toInt = (q_I r1916.2 12 24 a0).toInt := o_eq h1940
                  obtain ⟨b1942, o1943, k1944, n1945⟩ := gO_12_28 L k_a0
                  obtain rfl := gS_12_28 L k_a0 o1943
                  refine ok_at o1943 ?_
                  have t1946 := ti_tn (q_I r1916.2 12 24 a0)
                  refine ok_gd (fun hc1947 => ?_) ?_
                  · rcases hc1947 with hc1947 | hc1947
                    · have c1948 : (q_I r1916.2 12 24 a0).toInt < (0 : Int) := o_lt hc1947
                      omega
                    · omega
                  have f1952 := cb_12_25 i1918 k_a0
                  have f1953 : (q_I r1916.2 12 25 a0).toInt = (q_I r1902 12 25 a0).toInt := congrArg Int32.toInt (u1920 12 25 a0 (by decide))
                  have f1954 := cb_12_25 i1904 k_a0
                  have f1955 : (q_I r1902 12 25 a0).toInt = (q_I r1769.2 12 25 a0).toInt := congrArg Int32.toInt (u1907 12 25 a0 (by decide))
                  have f1956 := cb_12_25 i1771 k_a0
                  have f1957 : (q_I r1769.2 12 25 a0).toInt = (q_I r1617 12 25 a0).toInt := congrArg Int32.toInt (u1775 12 25 a0 (by decide))
                  have f1958 := cb_12_25 i1645 k_a0
                  refine ok_bdv (fun d1949 e1950 => ?_)
                  have i1951 : RI ad h.1 δ0 d1949 := by rw [e1950]; exact cr_112 L i1918 (show 0 ≤ (q_I r1916.2 12 25 a0).toInt by omega) (show (q_I r1916.2 12 25 a0).toInt ≤ 60 by omega)
                  have u1959 := kp_N u1924 (show q_I d1949 = q_I r1916.2 by rw [e1950]; rfl)
                  have v1960 : q_V d1949 = q_V δ := ((show q_V d1949 = q_V r1916.2 by rw [e1950]; rfl)).trans v1925
                  have v1961 := kr_s L (by decide) v1926 e1950
                  have f1965 := cb_12_24 i1951 k_a0
                  have f1966 : (q_I d1949 12 24 a0).toInt = (q_I r1916.2 12 24 a0).toInt := congrArg Int32.toInt (by rw [e1950]; rfl)
                  first | (have q1968 := te_addc (c := 1) (n := 1) rfl (q_I d1949 12 24 a0) (by omega) (by omega); obtain ⟨f1969, f1970, f1971⟩ := q1968) | (obtain ⟨q1968, f1969, f1970, f1971⟩ := ti_addc (c := 1) (n := 1) rfl (q_I d1949 12 24 a0))
                  refine ok_bdv (fun d1962 e1963 => ?_)
                  have i1964 : RI ad h.1 δ0 d1962 := by rw [e1963]; exact cs_12_24 L i1951 k_a0 (show 0 ≤ ((q_I d1949 12 24 a0) + (1 : Int32)).toInt by omega) (show ((q_I d1949 12 24 a0) + (1 : Int32)).toInt ≤ 4 by omega)
                  have u1972 := kp_I u1959 e1963
                  have v1973 : q_V d1962 = q_V δ := ((show q_V d1962 = q_V d1949 by rw [e1963]; rfl)).trans v1960
                  have v1974 := kr_N v1961 (show q_R d1962 = q_R d1949 by rw [e1963]; rfl)
                  unfold J_X12_thief_146
                  have ss1975 : NS ad a0 δ d1 := NS.t NS.r (NS.w e2 (by decide))
                  have ss1976 : NS0 ad a0 δ r1033.2 := NS0.t (NS.z ss1975) (NS.z ns1050)
                  have ss1977 : NS0 ad a0 δ r1063 := NS0.t ss1976 ns1083
                  have ns1979 : NS ad a0 d1109 r1115.2 := NS.t NS.r ns1144
                  have ns1980 : NS ad a0 r1617 r1769.2 := NS.t NS.r ns1790
                  have ns1981 : NS ad a0 r1617 r1902 := NS.t ns1980 ns1915
                  have ns1982 : NS ad a0 r1617 r1916.2 := NS.t ns1981 ns1929
                  have f1983 := cb_12_26 i1918 k_a0
                  have f1984 : (q_I r1916.2 12 26 a0).toInt = (q_I r1902 12 26 a0).toInt := congrArg Int32.toInt (u1920 12 26 a0 (by decide))
                  have f1985 := cb_12_26 i1904 k_a0
                  have f1986 : (q_I r1902 12 26 a0).toInt = (q_I r1769.2 12 26 a0).toInt := congrArg Int32.toInt (u1907 12 26 a0 (by decide))
                  have f1987 := cb_12_26 i1771 k_a0
                  have f1988 : (q_I r1769.2 12 26 a0).toInt = (q_I r1617 12 26 a0).toInt := congrArg Int32.toInt (u1775 12 26 a0 (by decide))
                  have ss1978 : TK ad a0 δ d1962 := TK.good L ss1977 e1098 e1104 e1110 ns1979 p1651 (u1654 112 (by decide) (by decide) (by decide)) ns1982 (show (0 : Int) = 0 by omega) (show (0 : Int) = 0 by omega) (show (0 : Int) = 0 by omega) (by omega) e1950 e1963 (show (((q_I r1916.2 12 24 a0).toNatClampNeg : Nat) : Int) = (q_I δ 12 24 a0).toInt by omega) (show (q_I r1916.2 12 25 a0).toInt = (q_I r1916.2 12 25 a0).toInt by omega) (show ((q_I d1949 12 24 a0) + (1 : Int32)).toInt = (q_I δ 12 24 a0).toInt + 1 by omega) (show (q_I r1916.2 12 5 a0).toInt = -1 by omega) (show (q_I r1916.2 12 26 a0).toInt ≤ 500 by omega)
                  have f1989 := cb_12_2 i1964 k_a0
                  have f1990 : (q_I d1962 12 2 a0).toInt = (q_I d1949 12 2 a0).toInt := congrArg Int32.toInt (by rw [e1963]; exact rI_o (by decide))
                  have f1991 := cb_12_2 i1951 k_a0
                  have f1992 : (q_I d1949 12 2 a0).toInt = (q_I r1916.2 12 2 a0).toInt := congrArg Int32.toInt (by rw [e1950]; rfl)
                  have f1993 := cb_12_2 i1918 k_a0
                  have f1994 : (q_I r1916.2 12 2 a0).toInt = (q_I r1902 12 2 a0).toInt := congrArg Int32.toInt (u1920 12 2 a0 (by decide))
                  have f1995 := cb_12_2 i1904 k_a0
                  have f1996 : (q_I r1902 12 2 a0).toInt = (q_I r1769.2 12 2 a0).toInt := congrArg Int32.toInt (u1907 12 2 a0 (by decide))
                  have f1997 := cb_12_2 i1771 k_a0
                  have f1998 : (q_I r1769.2 12 2 a0).toInt = (q_I r1617 12 2 a0).toInt := congrArg Int32.toInt (u1775 12 2 a0 (by decide))
                  have f1999 := cb_12_2 i1645 k_a0
                  have f2000 : (q_I r1617 12 2 a0).toInt = (q_I r1115.2 12 2 a0).toInt := congrArg Int32.toInt (u1652 12 2 a0 (by decide))
                  have f2001 := cb_12_2 i1117 k_a0
                  have f2002 : (q_I r1115.2 12 2 a0).toInt = (q_I d1109 12 2 a0).toInt := congrArg Int32.toInt (u1121 12 2 a0 (by decide))
                  have f2003 := cb_12_2 i1111 k_a0
                  have f2004 : (q_I d1109 12 2 a0).toInt = (q_I d1103 12 2 a0).toInt := congrArg Int32.toInt (by rw [e1110]; exact rI_o (by decide))
                  have f2005 := cb_12_2 i1105 k_a0
                  have f2006 : (q_I d1103 12 2 a0).toInt = (q_I d1097 12 2 a0).toInt := congrArg Int32.toInt (by rw [e1104]; exact rI_o (by decide))
                  have f2007 := cb_12_2 i1099 k_a0
                  have f2008 : (q_I d1097 12 2 a0).toInt = (q_I r1063 12 2 a0).toInt := congrArg Int32.toInt (by rw [e1098]; exact rI_o (by decide))
                  exact ok_some (show RI ad h.1 δ0 d1962 ∧ (kp [(12, 0), (12, 2), (12, 3), (12, 4), (12, 5), (12, 6), (12, 7), (12, 8), (12, 24), (12, 25), (12, 26), (12, 27)] δ d1962 ∧ q_V d1962 = q_V δ ∧ kr ad [100, 112, 113, 114, 115, 116, 117] δ d1962) ∧ TK ad a0 δ d1962 ∧ (0 ≤ (x1).toInt ∧ (x1).toInt ≤ (q_I δ 12 2 a0).toInt → (q_I d1962 12 2 a0).toInt = 0) ∧ ((x1).toInt < 0 ∨ (q_I δ 12 2 a0).toInt < (x1).toInt → (q_I d1962 12 2 a0).toInt = (q_I δ 12 2 a0).toInt) from ⟨i1964, ⟨kp_w (by decide) u1972, v1973, kr_w (by decide) v1974⟩, ss1978, by first | assumption | omega, by first | assumption | omega⟩)
                · have c2009 : r1916.1.toInt ≠ (q_I r1916.2 12 24 a0).toInt := o_ne h1940
                  unfold J_X12_thief_146
                  have ss2010 : NS ad a0 δ d1 := NS.t NS.r (NS.w e2 (by decide))
                  have ss2011 : NS0 ad a0 δ r1033.2 := NS0.t (NS.z ss2010) (NS.z ns1050)
                  have ss2012 : NS0 ad a0 δ r1063 := NS0.t ss2011 ns1083
                  have ns2014 : NS ad a0 d1109 r1115.2 := NS.t NS.r ns1144
                  have ns2015 : NS ad a0 r1617 r1769.2 := NS.t NS.r ns1790
                  have ns2016 : NS ad a0 r1617 r1902 := NS.t ns2015 ns1915
                  have ns2017 : NS ad a0 r1617 r1916.2 := NS.t ns2016 ns1929
                  have ss2013 : TK ad a0 δ r1916.2 := TK.bad L ss2012 e1098 e1104 e1110 ns2014 p1651 (u1654 112 (by decide) (by decide) (by decide)) ns2017 (show (0 : Int) = 0 by omega) (show (0 : Int) = 0 by omega) (show (0 : Int) = 0 by omega) (by omega)
                  have f2018 := cb_12_2 i1918 k_a0
                  have f2019 : (q_I r1916.2 12 2 a0).toInt = (q_I r1902 12 2 a0).toInt := congrArg Int32.toInt (u1920 12 2 a0 (by decide))
                  have f2020 := cb_12_2 i1904 k_a0
                  have f2021 : (q_I r1902 12 2 a0).toInt = (q_I r1769.2 12 2 a0).toInt := congrArg Int32.toInt (u1907 12 2 a0 (by decide))
                  have f2022 := cb_12_2 i1771 k_a0
                  have f2023 : (q_I r1769.2 12 2 a0).toInt = (q_I r1617 12 2 a0).toInt := congrArg Int32.toInt (u1775 12 2 a0 (by decide))
                  have f2024 := cb_12_2 i1645 k_a0
                  have f2025 : (q_I r1617 12 2 a0).toInt = (q_I r1115.2 12 2 a0).toInt := congrArg Int32.toInt (u1652 12 2 a0 (by decide))
                  have f2026 := cb_12_2 i1117 k_a0
                  have f2027 : (q_I r1115.2 12 2 a0).toInt = (q_I d1109 12 2 a0).toInt := congrArg Int32.toInt (u1121 12 2 a0 (by decide))
                  have f2028 := cb_12_2 i1111 k_a0
                  have f2029 : (q_I d1109 12 2 a0).toInt = (q_I d1103 12 2 a0).toInt := congrArg Int32.toInt (by rw [e1110]; exact rI_o (by decide))
                  have f2030 := cb_12_2 i1105 k_a0
                  have f2031 : (q_I d1103 12 2 a0).toInt = (q_I d1097 12 2 a0).toInt := congrArg Int32.toInt (by rw [e1104]; exact rI_o (by decide))
                  have f2032 := cb_12_2 i1099 k_a0
                  have f2033 : (q_I d1097 12 2 a0).toInt = (q_I r1063 12 2 a0).toInt := congrArg Int32.toInt (by rw [e1098]; exact rI_o (by decide))
                  exact ok_some (show RI ad h.1 δ0 r1916.2 ∧ (kp [(12, 0), (12, 2), (12, 3), (12, 4), (12, 5), (12, 6), (12, 7), (12, 8), (12, 24), (12, 25), (12, 26), (12, 27)] δ r1916.2 ∧ q_V r1916.2 = q_V δ ∧ kr ad [100, 112, 113, 114, 115, 116, 117] δ r1916.2) ∧ TK ad a0 δ r1916.2 ∧ (0 ≤ (x1).toInt ∧ (x1).toInt ≤ (q_I δ 12 2 a0).toInt → (q_I r1916.2 12 2 a0).toInt = 0) ∧ ((x1).toInt < 0 ∨ (q_I δ 12 2 a0).toInt < (x1).toInt → (q_I r1916.2 12 2 a0).toInt = (q_I δ 12 2 a0).toInt) from ⟨i1918, ⟨kp_w (by decide) u1924, v1925, kr_w (by decide) v1926⟩, ss2013, by first | assumption | omega, by first | assumption | omega⟩)
    · have c2034 : x1.toInt ≤ (q_I d1 12 2 a0).toInt := o_nlt h1031
      unfold J_X12_thief_23
      refine ok_bind (k_X12_may L hN (a0 := a0) (x1 := (1 : Int32)) (x2 := (1 : Int32)) (x3 := (2 : Int32)) k_a0 (show (1 : Int) ≠ 0 by first | assumption | omega) (show 0 ≤ (2 : Int) by first | assumption | omega) (show (2 : Int) ≤ 2 by first | assumption | omega) i3) (fun r2035 hr2036 => ?_)
      obtain ⟨i2037, ⟨u2041, u2042, u2043⟩, p2038, p2039, p2040⟩ := hr2036
      have u2044 := kp_t u4 u2041
      have v2045 : q_V r2035.2 = q_V δ := (u2042).trans v5
      have v2046 := kr_t v6 u2043
      have f2047 := bo_l p2038
      have f2048 := ti_b r2035.1
      replace p2039 : ((r2035.1).toInt = 1 → (1 : Int) ≠ 0) := p2039
      have f2049 := ti_b (q_I d1 12 0 a0)
      have f2050 : (q_I d1 12 0 a0).toInt = (0 : Int) := congrArg Int32.toInt (show q_I d1 12 0 a0 = (0 : Int32) by rw [e2]; exact rI_s)
      replace p2040 : ((q_I d1 12 0 a0).toInt = 0 → (r2035.1).toInt = 0 → (1 : Int) = 0) := p2040
      have f2051 := ti_b r2035.1
      have f2053 := cb_12_5 i2037 k_a0
      have f2054 : (q_I r2035.2 12 5 a0).toInt = (q_I d1 12 5 a0).toInt := congrArg Int32.toInt (u2041 12 5 a0 (by decide))
      have f2055 := cb_12_5 i3 k_a0
      have f2056 : (q_I d1 12 5 a0).toInt = (q_I δ 12 5 a0).toInt := congrArg Int32.toInt (by rw [e2]; exact rI_o (by decide))
      have f2057 := cb_12_5 I k_a0
      have ns2052 : NS ad a0 d1 r2035.2 := ⟨u2043 112 (by decide) (by decide) (by decide), u2043 113 (by decide) (by decide) (by decide), u2043 114 (by decide) (by decide) (by decide), u2043 115 (by decide) (by decide) (by decide), u2043 116 (by decide) (by decide) (by decide), u2041 12 24 _ (by decide), u2041 12 25 _ (by decide), u2041 12 26 _ (by decide), u2041 12 27 _ (by decide), fun z => by omega⟩
      refine ok_ite (fun h2058 => ?_) (fun h2058 => ?_)
      · have c2059 : r2035.1.toInt = (0 : Int) := o_eq h2058
        have ss2060 : NS ad a0 δ d1 := NS.t NS.r (NS.w e2 (by decide))
        have ss2061 : NS0 ad a0 δ r2035.2 := NS0.t (NS.z ss2060) (NS.z ns2052)
        have f2062 := cb_12_2 i2037 k_a0
        have f2063 : (q_I r2035.2 12 2 a0).toInt = (q_I d1 12 2 a0).toInt := congrArg Int32.toInt (u2041 12 2 a0 (by decide))
        exact ok_some (show RI ad h.1 δ0 r2035.2 ∧ (kp [(12, 0), (12, 2), (12, 3), (12, 4), (12, 5), (12, 6), (12, 7), (12, 8), (12, 24), (12, 25), (12, 26), (12, 27)] δ r2035.2 ∧ q_V r2035.2 = q_V δ ∧ kr ad [100, 112, 113, 114, 115, 116, 117] δ r2035.2) ∧ TK ad a0 δ r2035.2 ∧ (0 ≤ (x1).toInt ∧ (x1).toInt ≤ (q_I δ 12 2 a0).toInt → (q_I r2035.2 12 2 a0).toInt = 0) ∧ ((x1).toInt < 0 ∨ (q_I δ 12 2 a0).toInt < (x1).toInt → (q_I r2035.2 12 2 a0).toInt = (q_I δ 12 2 a0).toInt) from ⟨i2037, ⟨kp_w (by decide) u2044, v2045, kr_w (by decide) v2046⟩, TK.n ss2061, by first | assumption | omega, by first | assumption | omega⟩)
      · have c2064 : r2035.1.toInt ≠ (0 : Int) := o_ne h2058
        refine ok_bind (k_X12_begins L hN (a0 := a0) (x1 := x1) k_a0 (show 0 ≤ (x1).toInt by first | assumption | omega) (show (x1).toInt ≤ 500 by first | assumption | omega) i2037) (fun r2065 hr2066 => ?_)
        obtain ⟨i2067, ⟨u2073, u2074, u2075, u2076⟩, p2068, p2069, p2070, p2071, p2072⟩ := hr2066
        have u2077 := kp_t u2044 u2073
        have v2078 : q_V r2065 = q_V δ := (u2074).trans v2045
        have v2079 := kr_t v2046 u2076
        have f2080 := cb_12_2 i2067 k_a0
        have f2081 := cb_12_4 i2067 k_a0
        have f2082 := cb_12_3 i2067 k_a0
        have f2083 := cb_12_5 i2067 k_a0
        have f2084 := ti_b (q_I r2065 12 7 a0)
        have ns2085 : NS0 ad a0 r2035.2 r2065 := ⟨u2076 112 (by decide) (by decide) (by decide), u2076 113 (by decide) (by decide) (by decide), u2076 114 (by decide) (by decide) (by decide), u2076 115 (by decide) (by decide) (by decide), u2076 116 (by decide) (by decide) (by decide), u2073 12 24 _ (by decide)⟩
        have f2086 := cb_12_24 i2067 k_a0
        have f2087 : (q_I r2065 12 24 a0).toInt = (q_I r2035.2 12 24 a0).toInt := congrArg Int32.toInt (u2073 12 24 a0 (by decide))
        have f2088 := cb_12_24 i2037 k_a0
        have f2089 : (q_I r2035.2 12 24 a0).toInt = (q_I d1 12 24 a0).toInt := congrArg Int32.toInt (u2041 12 24 a0 (by decide))
        have f2090 := cb_12_24 i3 k_a0
        have f2091 : (q_I d1 12 24 a0).toInt = (q_I δ 12 24 a0).toInt := congrArg Int32.toInt (by rw [e2]; exact rI_o (by decide))
        have f2092 := cb_12_24 I k_a0
        refine ok_ite (fun h2093 => ?_) (fun h2093 => ?_)
        · have c2094 : (q_I r2065 12 24 a0).toInt = (4 : Int) := o_eq h2093
          have ss2095 : NS ad a0 δ d1 := NS.t NS.r (NS.w e2 (by decide))
          have ss2096 : NS0 ad a0 δ r2035.2 := NS0.t (NS.z ss2095) (NS.z ns2052)
          have ss2097 : NS0 ad a0 δ r2065 := NS0.t ss2096 ns2085
          exact ok_some (show RI ad h.1 δ0 r2065 ∧ (kp [(12, 0), (12, 2), (12, 3), (12, 4), (12, 5), (12, 6), (12, 7), (12, 8), (12, 24), (12, 25), (12, 26), (12, 27)] δ r2065 ∧ q_V r2065 = q_V δ ∧ kr ad [100, 112, 113, 114, 115, 116, 117] δ r2065) ∧ TK ad a0 δ r2065 ∧ (0 ≤ (x1).toInt ∧ (x1).toInt ≤ (q_I δ 12 2 a0).toInt → (q_I r2065 12 2 a0).toInt = 0) ∧ ((x1).toInt < 0 ∨ (q_I δ 12 2 a0).toInt < (x1).toInt → (q_I r2065 12 2 a0).toInt = (q_I δ 12 2 a0).toInt) from ⟨i2067, ⟨kp_w (by decide) u2077, v2078, kr_w (by decide) v2079⟩, TK.n ss2097, by first | assumption | omega, by first | assumption | omega⟩)
        · have c2098 : (q_I r2065 12 24 a0).toInt ≠ (4 : Int) := o_ne h2093
          refine ok_bdv (fun d2099 e2100 => ?_)
          have i2101 : RI ad h.1 δ0 d2099 := by rw [e2100]; exact cs_12_25 L i2067 k_a0 (show 0 ≤ (0 : Int) by omega) (show (0 : Int) ≤ 60 by omega)
          have u2102 := kp_I u2077 e2100
          have v2103 : q_V d2099 = q_V δ := ((show q_V d2099 = q_V r2065 by rw [e2100]; rfl)).trans v2078
          have v2104 := kr_N v2079 (show q_R d2099 = q_R r2065 by rw [e2100]; rfl)
          refine ok_bdv (fun d2105 e2106 => ?_)
          have i2107 : RI ad h.1 δ0 d2105 := by rw [e2106]; exact cs_12_26 L i2101 k_a0 (show 0 ≤ (0 : Int) by omega) (show (0 : Int) ≤ 500 by omega)
          have u2108 := kp_I u2102 e2106
          have v2109 : q_V d2105 = q_V δ := ((show q_V d2105 = q_V d2099 by rw [e2106]; rfl)).trans v2103
          have v2110 := kr_N v2104 (show q_R d2105 = q_R d2099 by rw [e2106]; rfl)
          refine ok_bdv (fun d2111 e2112 => ?_)
          have i2113 : RI ad h.1 δ0 d2111 := by rw [e2112]; exact cs_12_27 L i2107 k_a0 (show 0 ≤ (0 : Int) by omega) (show (0 : Int) ≤ 3 by omega)
          have u2114 := kp_I u2108 e2112
          have v2115 : q_V d2111 = q_V δ := ((show q_V d2111 = q_V d2105 by rw [e2112]; rfl)).trans v2109
          have v2116 := kr_N v2110 (show q_R d2111 = q_R d2105 by rw [e2112]; rfl)
          refine ok_bind (k_X12_isMore L hN (a0 := a0) k_a0 i2113) (fun r2117 hr2118 => ?_)
          obtain ⟨i2119, ⟨u2123, u2124, u2125, u2126⟩, p2120, p2121, p2122⟩ := hr2118
          have u2127 := kp_t u2114 u2123
          have v2128 : q_V r2117.2 = q_V δ := (u2124).trans v2115
          have v2129 := kr_t v2116 u2126
          have f2130 := bo_l p2120
          have f2131 := cb_12_4 i2113 k_a0
          have f2132 : (q_I d2111 12 4 a0).toInt = (q_I d2105 12 4 a0).toInt := congrArg Int32.toInt (by rw [e2112]; exact rI_o (by decide))
          have f2133 := cb_12_4 i2107 k_a0
          have f2134 : (q_I d2105 12 4 a0).toInt = (q_I d2099 12 4 a0).toInt := congrArg Int32.toInt (by rw [e2106]; exact rI_o (by decide))
          have f2135 := cb_12_4 i2101 k_a0
          have f2136 : (q_I d2099 12 4 a0).toInt = (q_I r2065 12 4 a0).toInt := congrArg Int32.toInt (by rw [e2100]; exact rI_o (by decide))
          have f2137 := cb_12_4 i2119 k_a0
          have f2138 := ti_b r2117.1
          have f2139 := cb_12_3 i2113 k_a0
          have f2140 : (q_I d2111 12 3 a0).toInt = (q_I d2105 12 3 a0).toInt := congrArg Int32.toInt (by rw [e2112]; exact rI_o (by decide))
          have f2141 := cb_12_3 i2107 k_a0
          have f2142 : (q_I d2105 12 3 a0).toInt = (q_I d2099 12 3 a0).toInt := congrArg Int32.toInt (by rw [e2106]; exact rI_o (by decide))
          have f2143 := cb_12_3 i2101 k_a0
          have f2144 : (q_I d2099 12 3 a0).toInt = (q_I r2065 12 3 a0).toInt := congrArg Int32.toInt (by rw [e2100]; exact rI_o (by decide))
          have f2145 := ti_b r2117.1
          have f2147 := cb_12_5 i2119 k_a0
          have f2148 : (q_I r2117.2 12 5 a0).toInt = (q_I d2111 12 5 a0).toInt := congrArg Int32.toInt (u2123 12 5 a0 (by decide))
          have f2149 := cb_12_5 i2113 k_a0
          have f2150 : (q_I d2111 12 5 a0).toInt = (q_I d2105 12 5 a0).toInt := congrArg Int32.toInt (by rw [e2112]; exact rI_o (by decide))
          have f2151 := cb_12_5 i2107 k_a0
          have f2152 : (q_I d2105 12 5 a0).toInt = (q_I d2099 12 5 a0).toInt := congrArg Int32.toInt (by rw [e2106]; exact rI_o (by decide))
          have f2153 := cb_12_5 i2101 k_a0
          have f2154 : (q_I d2099 12 5 a0).toInt = (q_I r2065 12 5 a0).toInt := congrArg Int32.toInt (by rw [e2100]; exact rI_o (by decide))
          have ns2146 : NS ad a0 d2111 r2117.2 := ⟨u2126 112 (by decide) (by decide) (by decide), u2126 113 (by decide) (by decide) (by decide), u2126 114 (by decide) (by decide) (by decide), u2126 115 (by decide) (by decide) (by decide), u2126 116 (by decide) (by decide) (by decide), u2123 12 24 _ (by decide), u2123 12 25 _ (by decide), u2123 12 26 _ (by decide), u2123 12 27 _ (by decide), fun z => by omega⟩
          refine ok_ite (fun h2155 => ?_) (fun h2155 => ?_)
          · have c2156 : r2117.1.toInt = (0 : Int) := o_eq h2155
            have f2159 := cb_12_3 i2119 k_a0
            have f2160 : (q_I r2117.2 12 3 a0).toInt = (q_I d2111 12 3 a0).toInt := congrArg Int32.toInt (u2123 12 3 a0 (by decide))
            refine ok_bind (k_X12_wrong L hN (a0 := a0) (x1 := (1 : Int32)) (x2 := (q_I r2117.2 12 3 a0)) k_a0 (show 0 ≤ ((q_I r2117.2 12 3 a0)).toInt by first | assumption | omega) (show ((q_I r2117.2 12 3 a0)).toInt ≤ 500 by first | assumption | omega) (show 0 ≤ (1 : Int) by first | assumption | omega) (show (1 : Int) ≤ 4 by first | assumption | omega) i2119) (fun r2157 hr2158 => ?_)
            obtain ⟨i2161, ⟨u2164, u2165, u2166, u2167⟩, p2162, p2163⟩ := hr2158
            have u2168 := kp_t u2127 u2164
            have v2169 : q_V r2157 = q_V δ := (u2165).trans v2128
            have v2170 := kr_t v2129 u2167
            have f2171 := cb_12_5 i2161 k_a0
            have ns2172 : NS ad a0 r2117.2 r2157 := ⟨u2167 112 (by decide) (by decide) (by decide), u2167 113 (by decide) (by decide) (by decide), u2167 114 (by decide) (by decide) (by decide), u2167 115 (by decide) (by decide) (by decide), u2167 116 (by decide) (by decide) (by decide), u2164 12 24 _ (by decide), u2164 12 25 _ (by decide), u2164 12 26 _ (by decide), u2164 12 27 _ (by decide), fun z => by omega⟩
            unfold J_X12_thief_79
            have f2175 := cb_12_24 i2161 k_a0
            have f2176 : (q_I r2157 12 24 a0).toInt = (q_I r2117.2 12 24 a0).toInt := congrArg Int32.toInt (u2164 12 24 a0 (by decide))
            have f2177 := cb_12_24 i2119 k_a0
            have f2178 : (q_I r2117.2 12 24 a0).toInt = (q_I d2111 12 24 a0).toInt := congrArg Int32.toInt (u2123 12 24 a0 (by decide))
            have f2179 := cb_12_24 i2113 k_a0
            have f2180 : (q_I d2111 12 24 a0).toInt = (q_I d2105 12 24 a0).toInt := congrArg Int32.toInt (by rw [e2112]; exact rI_o (by decide))
            have f2181 := cb_12_24 i2107 k_a0
            have f2182 : (q_I d2105 12 24 a0).toInt = (q_I d2099 12 24 a0).toInt := congrArg Int32.toInt (by rw [e2106]; exact rI_o (by decide))
            have f2183 := cb_12_24 i2101 k_a0
            have f2184 : (q_I d2099 12 24 a0).toInt = (q_I r2065 12 24 a0).toInt := congrArg Int32.toInt (by rw [e2100]; exact rI_o (by decide))
            have f2185 := cb_12_26 i2161 k_a0
            have f2186 : (q_I r2157 12 26 a0).toInt = (q_I r2117.2 12 26 a0).toInt := congrArg Int32.toInt (u2164 12 26 a0 (by decide))
            have f2187 := cb_12_26 i2119 k_a0
            have f2188 : (q_I r2117.2 12 26 a0).toInt = (q_I d2111 12 26 a0).toInt := congrArg Int32.toInt (u2123 12 26 a0 (by decide))
            have f2189 := cb_12_26 i2113 k_a0
            have f2190 : (q_I d2111 12 26 a0).toInt = (q_I d2105 12 26 a0).toInt := congrArg Int32.toInt (by rw [e2112]; exact rI_o (by decide))
            have f2191 := cb_12_26 i2107 k_a0
            have f2192 : (q_I d2105 12 26 a0).toInt = (0 : Int) := congrArg Int32.toInt (show q_I d2105 12 26 a0 = (0 : Int32) by rw [e2106]; exact rI_s)
            have f2193 := cb_12_4 i2161 k_a0
            have f2194 : (q_I r2157 12 4 a0).toInt = (q_I r2117.2 12 4 a0).toInt := congrArg Int32.toInt (u2164 12 4 a0 (by decide))
            have f2195 := ti_b (q_I r2157 12 7 a0)
            have f2196 : (q_I r2157 12 7 a0).toInt = (q_I r2117.2 12 7 a0).toInt := congrArg Int32.toInt (u2164 12 7 a0 (by decide))
            have f2197 := ti_b (q_I r2117.2 12 7 a0)
            have f2198 : (q_I r2117.2 12 7 a0).toInt = (q_I d2111 12 7 a0).toInt := congrArg Int32.toInt (u2123 12 7 a0 (by decide))
            have f2199 := ti_b (q_I d2111 12 7 a0)
            have f2200 : (q_I d2111 12 7 a0).toInt = (q_I d2105 12 7 a0).toInt := congrArg Int32.toInt (by rw [e2112]; exact rI_o (by decide))
            have f2201 := ti_b (q_I d2105 12 7 a0)
            have f2202 : (q_I d2105 12 7 a0).toInt = (q_I d2099 12 7 a0).toInt := congrArg Int32.toInt (by rw [e2106]; exact rI_o (by decide))
            have f2203 := ti_b (q_I d2099 12 7 a0)
            have f2204 : (q_I d2099 12 7 a0).toInt = (q_I r2065 12 7 a0).toInt := congrArg Int32.toInt (by rw [e2100]; exact rI_o (by decide))
            have f2205 := cb_12_27 i2161 k_a0
            have f2206 : (q_I r2157 12 27 a0).toInt = (q_I r2117.2 12 27 a0).toInt := congrArg Int32.toInt (u2164 12 27 a0 (by decide))
            have f2207 := cb_12_27 i2119 k_a0
            have f2208 : (q_I r2117.2 12 27 a0).toInt = (q_I d2111 12 27 a0).toInt := congrArg Int32.toInt (u2123 12 27 a0 (by decide))
            have f2209 := cb_12_27 i2113 k_a0
            have f2210 : (q_I d2111 12 27 a0).toInt = (0 : Int) := congrArg Int32.toInt (show q_I d2111 12 27 a0 = (0 : Int32) by rw [e2112]; exact rI_s)
            refine ok_bind (k_X12_readSteps L hN (a0 := a0) k_a0 (show (q_I r2157 12 24 a0).toInt ≤ 3 by first | assumption | omega) (show (q_I r2157 12 26 a0).toInt ≤ (q_I r2157 12 4 a0).toInt by first | assumption | omega) (show (q_I r2157 12 7 a0).toInt = 0 by first | assumption | omega) (show 4 - (q_I r2157 12 27 a0).toInt < 20 by first | assumption | omega) i2161) (fun r2173 hr2174 => ?_)
            obtain ⟨i2211, ⟨u2218, u2219, u2220⟩, p2212, p2213, p2214, p2215, p2216, p2217⟩ := hr2174
            have u2221 := kp_t u2168 u2218
            have v2222 : q_V r2173 = q_V δ := (u2219).trans v2169
            have v2223 := kr_t v2170 u2220
            have f2224 := cb_12_4 i2211 k_a0
            have f2225 := cb_12_5 i2211 k_a0
            have f2226 := ti_b (q_I r2173 12 7 a0)
            have f2227 := cb_12_27 i2211 k_a0
            have f2228 := cb_12_26 i2211 k_a0
            refine ok_bind (k_X12_fine L hN (a0 := a0) k_a0 i2211) (fun r2229 hr2230 => ?_)
            obtain ⟨i2231, p2232, p2233, p2234⟩ := hr2230
            try rw [i2231]
            have f2235 := bo_l p2232
            have f2236 := ti_b r2229.1
            have f2237 := ti_b r2229.1
            refine ok_ite (fun h2238 => ?_) (fun h2238 => ?_)
            · have c2239 : r2229.1.toInt = (0 : Int) := o_eq h2238
              unfold J_X12_thief_106
              refine ok_bind (k_X12_result L hN (a0 := a0) (x1 := (q_I r2173 12 24 a0)) k_a0 i2211) (fun r2240 hr2241 => ?_)
              obtain ⟨i2242, ⟨u2244, u2245, u2246, u2247⟩, p2243⟩ := hr2241
              have u2248 := kp_t u2221 u2244
              have v2249 : q_V r2240.2 = q_V δ := (u2245).trans v2222
              have v2250 := kr_t v2223 u2247
              have f2251 := ti_b r2240.1
              have f2252 := ti_b r2240.1
              have f2254 := cb_12_5 i2242 k_a0
              have f2255 : (q_I r2240.2 12 5 a0).toInt = (q_I r2173 12 5 a0).toInt := congrArg Int32.toInt (u2244 12 5 a0 (by decide))
              have ns2253 : NS ad a0 r2173 r2240.2 := ⟨u2247 112 (by decide) (by decide) (by decide), u2247 113 (by decide) (by decide) (by decide), u2247 114 (by decide) (by decide) (by decide), u2247 115 (by decide) (by decide) (by decide), u2247 116 (by decide) (by decide) (by decide), u2244 12 24 _ (by decide), u2244 12 25 _ (by decide), u2244 12 26 _ (by decide), u2244 12 27 _ (by decide), fun z => by omega⟩
              have f2256 := cb_12_24 i2242 k_a0
              have f2257 : (q_I r2240.2 12 24 a0).toInt = (q_I r2173 12 24 a0).toInt := congrArg Int32.toInt (u2244 12 24 a0 (by decide))
              have f2258 := cb_12_24 i2211 k_a0
              have f2259 : (q_I r2173 12 24 a0).toInt = (q_I r2157 12 24 a0).toInt := congrArg Int32.toInt (u2218 12 24 a0 (by decide))
              refine ok_ite (fun h2260 => ?_) (fun h2260 => ?_)
              · have c2261 : r2240.1.toInt = (q_I r2240.2 12 24 a0).toInt := o_eq h2260
                obtain ⟨b2262, o2263, k2264, n2265⟩ := gO_12_28 L k_a0
                obtain rfl := gS_12_28 L k_a0 o2263
                refine ok_at o2263 ?_
                have t2266 := ti_tn (q_I r2240.2 12 24 a0)
                refine ok_gd (fun hc2267 => ?_) ?_
                · rcases hc2267 with hc2267 | hc2267
                  · have c2268 : (q_I r2240.2 12 24 a0).toInt < (0 : Int) := o_lt hc2267
                    omega
                  · omega
                have f2272 := cb_12_25 i2242 k_a0
                have f2273 : (q_I r2240.2 12 25 a0).toInt = (q_I r2173 12 25 a0).toInt := congrArg Int32.toInt (u2244 12 25 a0 (by decide))
                have f2274 := cb_12_25 i2211 k_a0
                refine ok_bdv (fun d2269 e2270 => ?_)
                have i2271 : RI ad h.1 δ0 d2269 := by rw [e2270]; exact cr_112 L i2242 (show 0 ≤ (q_I r2240.2 12 25 a0).toInt by omega) (show (q_I r2240.2 12 25 a0).toInt ≤ 60 by omega)
                have u2275 := kp_N u2248 (show q_I d2269 = q_I r2240.2 by rw [e2270]; rfl)
                have v2276 : q_V d2269 = q_V δ := ((show q_V d2269 = q_V r2240.2 by rw [e2270]; rfl)).trans v2249
                have v2277 := kr_s L (by decide) v2250 e2270
                have f2281 := cb_12_24 i2271 k_a0
                have f2282 : (q_I d2269 12 24 a0).toInt = (q_I r2240.2 12 24 a0).toInt := congrArg Int32.toInt (by rw [e2270]; rfl)
                first | (have q2284 := te_addc (c := 1) (n := 1) rfl (q_I d2269 12 24 a0) (by omega) (by omega); obtain ⟨f2285, f2286, f2287⟩ := q2284) | (obtain ⟨q2284, f2285, f2286, f2287⟩ := ti_addc (c := 1) (n := 1) rfl (q_I d2269 12 24 a0))
                refine ok_bdv (fun d2278 e2279 => ?_)
                have i2280 : RI ad h.1 δ0 d2278 := by rw [e2279]; exact cs_12_24 L i2271 k_a0 (show 0 ≤ ((q_I d2269 12 24 a0) + (1 : Int32)).toInt by omega) (show ((q_I d2269 12 24 a0) + (1 : Int32)).toInt ≤ 4 by omega)
                have u2288 := kp_I u2275 e2279
                have v2289 : q_V d2278 = q_V δ := ((show q_V d2278 = q_V d2269 by rw [e2279]; rfl)).trans v2276
                have v2290 := kr_N v2277 (show q_R d2278 = q_R d2269 by rw [e2279]; rfl)
                unfold J_X12_thief_146
                have ss2291 : NS ad a0 δ d1 := NS.t NS.r (NS.w e2 (by decide))
                have ss2292 : NS0 ad a0 δ r2035.2 := NS0.t (NS.z ss2291) (NS.z ns2052)
                have ss2293 : NS0 ad a0 δ r2065 := NS0.t ss2292 ns2085
                have ns2295 : NS ad a0 d2111 r2117.2 := NS.t NS.r ns2146
                have ns2296 : NS ad a0 d2111 r2157 := NS.t ns2295 ns2172
                have ns2297 : NS ad a0 r2173 r2240.2 := NS.t NS.r ns2253
                have f2298 := cb_12_26 i2242 k_a0
                have f2299 : (q_I r2240.2 12 26 a0).toInt = (q_I r2173 12 26 a0).toInt := congrArg Int32.toInt (u2244 12 26 a0 (by decide))
                have ss2294 : TK ad a0 δ d2278 := TK.good L ss2293 e2100 e2106 e2112 ns2296 p2217 (u2220 112 (by decide) (by decide) (by decide)) ns2297 (show (0 : Int) = 0 by omega) (show (0 : Int) = 0 by omega) (show (0 : Int) = 0 by omega) (by omega) e2270 e2279 (show (((q_I r2240.2 12 24 a0).toNatClampNeg : Nat) : Int) = (q_I δ 12 24 a0).toInt by omega) (show (q_I r2240.2 12 25 a0).toInt = (q_I r2240.2 12 25 a0).toInt by omega) (show ((q_I d2269 12 24 a0) + (1 : Int32)).toInt = (q_I δ 12 24 a0).toInt + 1 by omega) (show (q_I r2240.2 12 5 a0).toInt = -1 by omega) (show (q_I r2240.2 12 26 a0).toInt ≤ 500 by omega)
                have f2300 := cb_12_2 i2280 k_a0
                have f2301 : (q_I d2278 12 2 a0).toInt = (q_I d2269 12 2 a0).toInt := congrArg Int32.toInt (by rw [e2279]; exact rI_o (by decide))
                have f2302 := cb_12_2 i2271 k_a0
                have f2303 : (q_I d2269 12 2 a0).toInt = (q_I r2240.2 12 2 a0).toInt := congrArg Int32.toInt (by rw [e2270]; rfl)
                have f2304 := cb_12_2 i2242 k_a0
                have f2305 : (q_I r2240.2 12 2 a0).toInt = (q_I r2173 12 2 a0).toInt := congrArg Int32.toInt (u2244 12 2 a0 (by decide))
                have f2306 := cb_12_2 i2211 k_a0
                have f2307 : (q_I r2173 12 2 a0).toInt = (q_I r2157 12 2 a0).toInt := congrArg Int32.toInt (u2218 12 2 a0 (by decide))
                have f2308 := cb_12_2 i2161 k_a0
                have f2309 : (q_I r2157 12 2 a0).toInt = (q_I r2117.2 12 2 a0).toInt := congrArg Int32.toInt (u2164 12 2 a0 (by decide))
                have f2310 := cb_12_2 i2119 k_a0
                have f2311 : (q_I r2117.2 12 2 a0).toInt = (q_I d2111 12 2 a0).toInt := congrArg Int32.toInt (u2123 12 2 a0 (by decide))
                have f2312 := cb_12_2 i2113 k_a0
                have f2313 : (q_I d2111 12 2 a0).toInt = (q_I d2105 12 2 a0).toInt := congrArg Int32.toInt (by rw [e2112]; exact rI_o (by decide))
                have f2314 := cb_12_2 i2107 k_a0
                have f2315 : (q_I d2105 12 2 a0).toInt = (q_I d2099 12 2 a0).toInt := congrArg Int32.toInt (by rw [e2106]; exact rI_o (by decide))
                have f2316 := cb_12_2 i2101 k_a0
                have f2317 : (q_I d2099 12 2 a0).toInt = (q_I r2065 12 2 a0).toInt := congrArg Int32.toInt (by rw [e2100]; exact rI_o (by decide))
                exact ok_some (show RI ad h.1 δ0 d2278 ∧ (kp [(12, 0), (12, 2), (12, 3), (12, 4), (12, 5), (12, 6), (12, 7), (12, 8), (12, 24), (12, 25), (12, 26), (12, 27)] δ d2278 ∧ q_V d2278 = q_V δ ∧ kr ad [100, 112, 113, 114, 115, 116, 117] δ d2278) ∧ TK ad a0 δ d2278 ∧ (0 ≤ (x1).toInt ∧ (x1).toInt ≤ (q_I δ 12 2 a0).toInt → (q_I d2278 12 2 a0).toInt = 0) ∧ ((x1).toInt < 0 ∨ (q_I δ 12 2 a0).toInt < (x1).toInt → (q_I d2278 12 2 a0).toInt = (q_I δ 12 2 a0).toInt) from ⟨i2280, ⟨kp_w (by decide) u2288, v2289, kr_w (by decide) v2290⟩, ss2294, by first | assumption | omega, by first | assumption | omega⟩)
              · have c2318 : r2240.1.toInt ≠ (q_I r2240.2 12 24 a0).toInt := o_ne h2260
                unfold J_X12_thief_146
                have ss2319 : NS ad a0 δ d1 := NS.t NS.r (NS.w e2 (by decide))
                have ss2320 : NS0 ad a0 δ r2035.2 := NS0.t (NS.z ss2319) (NS.z ns2052)
                have ss2321 : NS0 ad a0 δ r2065 := NS0.t ss2320 ns2085
                have ns2323 : NS ad a0 d2111 r2117.2 := NS.t NS.r ns2146
                have ns2324 : NS ad a0 d2111 r2157 := NS.t ns2323 ns2172
                have ns2325 : NS ad a0 r2173 r2240.2 := NS.t NS.r ns2253
                have ss2322 : TK ad a0 δ r2240.2 := TK.bad L ss2321 e2100 e2106 e2112 ns2324 p2217 (u2220 112 (by decide) (by decide) (by decide)) ns2325 (show (0 : Int) = 0 by omega) (show (0 : Int) = 0 by omega) (show (0 : Int) = 0 by omega) (by omega)
                have f2326 := cb_12_2 i2242 k_a0
                have f2327 : (q_I r2240.2 12 2 a0).toInt = (q_I r2173 12 2 a0).toInt := congrArg Int32.toInt (u2244 12 2 a0 (by decide))
                have f2328 := cb_12_2 i2211 k_a0
                have f2329 : (q_I r2173 12 2 a0).toInt = (q_I r2157 12 2 a0).toInt := congrArg Int32.toInt (u2218 12 2 a0 (by decide))
                have f2330 := cb_12_2 i2161 k_a0
                have f2331 : (q_I r2157 12 2 a0).toInt = (q_I r2117.2 12 2 a0).toInt := congrArg Int32.toInt (u2164 12 2 a0 (by decide))
                have f2332 := cb_12_2 i2119 k_a0
                have f2333 : (q_I r2117.2 12 2 a0).toInt = (q_I d2111 12 2 a0).toInt := congrArg Int32.toInt (u2123 12 2 a0 (by decide))
                have f2334 := cb_12_2 i2113 k_a0
                have f2335 : (q_I d2111 12 2 a0).toInt = (q_I d2105 12 2 a0).toInt := congrArg Int32.toInt (by rw [e2112]; exact rI_o (by decide))
                have f2336 := cb_12_2 i2107 k_a0
                have f2337 : (q_I d2105 12 2 a0).toInt = (q_I d2099 12 2 a0).toInt := congrArg Int32.toInt (by rw [e2106]; exact rI_o (by decide))
                have f2338 := cb_12_2 i2101 k_a0
                have f2339 : (q_I d2099 12 2 a0).toInt = (q_I r2065 12 2 a0).toInt := congrArg Int32.toInt (by rw [e2100]; exact rI_o (by decide))
                exact ok_some (show RI ad h.1 δ0 r2240.2 ∧ (kp [(12, 0), (12, 2), (12, 3), (12, 4), (12, 5), (12, 6), (12, 7), (12, 8), (12, 24), (12, 25), (12, 26), (12, 27)] δ r2240.2 ∧ q_V r2240.2 = q_V δ ∧ kr ad [100, 112, 113, 114, 115, 116, 117] δ r2240.2) ∧ TK ad a0 δ r2240.2 ∧ (0 ≤ (x1).toInt ∧ (x1).toInt ≤ (q_I δ 12 2 a0).toInt → (q_I r2240.2 12 2 a0).toInt = 0) ∧ ((x1).toInt < 0 ∨ (q_I δ 12 2 a0).toInt < (x1).toInt → (q_I r2240.2 12 2 a0).toInt = (q_I δ 12 2 a0).toInt) from ⟨i2242, ⟨kp_w (by decide) u2248, v2249, kr_w (by decide) v2250⟩, ss2322, by first | assumption | omega, by first | assumption | omega⟩)
            · have c2340 : r2229.1.toInt ≠ (0 : Int) := o_ne h2238
              refine ok_bind (k_X12_isMore L hN (a0 := a0) k_a0 i2211) (fun r2341 hr2342 => ?_)
              obtain ⟨i2343, ⟨u2347, u2348, u2349, u2350⟩, p2344, p2345, p2346⟩ := hr2342
              have u2351 := kp_t u2221 u2347
              have v2352 : q_V r2341.2 = q_V δ := (u2348).trans v2222
              have v2353 := kr_t v2223 u2350
              have f2354 := bo_l p2344
              have f2355 := cb_12_4 i2343 k_a0
              have f2356 := ti_b r2341.1
              have f2357 := cb_12_3 i2211 k_a0
              have f2358 : (q_I r2173 12 3 a0).toInt = (q_I r2157 12 3 a0).toInt := congrArg Int32.toInt (u2218 12 3 a0 (by decide))
              have f2359 := cb_12_3 i2161 k_a0
              have f2360 : (q_I r2157 12 3 a0).toInt = (q_I r2117.2 12 3 a0).toInt := congrArg Int32.toInt (u2164 12 3 a0 (by decide))
              have f2361 := ti_b r2341.1
              have f2363 := cb_12_5 i2343 k_a0
              have f2364 : (q_I r2341.2 12 5 a0).toInt = (q_I r2173 12 5 a0).toInt := congrArg Int32.toInt (u2347 12 5 a0 (by decide))
              have ns2362 : NS ad a0 r2173 r2341.2 := ⟨u2350 112 (by decide) (by decide) (by decide), u2350 113 (by decide) (by decide) (by decide), u2350 114 (by decide) (by decide) (by decide), u2350 115 (by decide) (by decide) (by decide), u2350 116 (by decide) (by decide) (by decide), u2347 12 24 _ (by decide), u2347 12 25 _ (by decide), u2347 12 26 _ (by decide), u2347 12 27 _ (by decide), fun z => by omega⟩
              refine ok_ite (fun h2365 => ?_) (fun h2365 => ?_)
              · have c2366 : r2341.1.toInt = (0 : Int) := o_eq h2365
                unfold J_X12_thief_106
                refine ok_bind (k_X12_result L hN (a0 := a0) (x1 := (q_I r2341.2 12 24 a0)) k_a0 i2343) (fun r2367 hr2368 => ?_)
                obtain ⟨i2369, ⟨u2371, u2372, u2373, u2374⟩, p2370⟩ := hr2368
                have u2375 := kp_t u2351 u2371
                have v2376 : q_V r2367.2 = q_V δ := (u2372).trans v2352
                have v2377 := kr_t v2353 u2374
                have f2378 := ti_b r2367.1
                have f2379 := ti_b r2367.1
                have f2381 := cb_12_5 i2369 k_a0
                have f2382 : (q_I r2367.2 12 5 a0).toInt = (q_I r2341.2 12 5 a0).toInt := congrArg Int32.toInt (u2371 12 5 a0 (by decide))
                have ns2380 : NS ad a0 r2341.2 r2367.2 := ⟨u2374 112 (by decide) (by decide) (by decide), u2374 113 (by decide) (by decide) (by decide), u2374 114 (by decide) (by decide) (by decide), u2374 115 (by decide) (by decide) (by decide), u2374 116 (by decide) (by decide) (by decide), u2371 12 24 _ (by decide), u2371 12 25 _ (by decide), u2371 12 26 _ (by decide), u2371 12 27 _ (by decide), fun z => by omega⟩
                have f2383 := cb_12_24 i2369 k_a0
                have f2384 : (q_I r2367.2 12 24 a0).toInt = (q_I r2341.2 12 24 a0).toInt := congrArg Int32.toInt (u2371 12 24 a0 (by decide))
                have f2385 := cb_12_24 i2343 k_a0
                have f2386 : (q_I r2341.2 12 24 a0).toInt = (q_I r2173 12 24 a0).toInt := congrArg Int32.toInt (u2347 12 24 a0 (by decide))
                have f2387 := cb_12_24 i2211 k_a0
                have f2388 : (q_I r2173 12 24 a0).toInt = (q_I r2157 12 24 a0).toInt := congrArg Int32.toInt (u2218 12 24 a0 (by decide))
                refine ok_ite (fun h2389 => ?_) (fun h2389 => ?_)
                · have c2390 : r2367.1.toInt = (q_I r2367.2 12 24 a0).toInt := o_eq h2389
                  obtain ⟨b2391, o2392, k2393, n2394⟩ := gO_12_28 L k_a0
                  obtain rfl := gS_12_28 L k_a0 o2392
                  refine ok_at o2392 ?_
                  have t2395 := ti_tn (q_I r2367.2 12 24 a0)
                  refine ok_gd (fun hc2396 => ?_) ?_
                  · rcases hc2396 with hc2396 | hc2396
                    · have c2397 : (q_I r2367.2 12 24 a0).toInt < (0 : Int) := o_lt hc2396
                      omega
                    · omega
                  have f2401 := cb_12_25 i2369 k_a0
                  have f2402 : (q_I r2367.2 12 25 a0).toInt = (q_I r2341.2 12 25 a0).toInt := congrArg Int32.toInt (u2371 12 25 a0 (by decide))
                  have f2403 := cb_12_25 i2343 k_a0
                  have f2404 : (q_I r2341.2 12 25 a0).toInt = (q_I r2173 12 25 a0).toInt := congrArg Int32.toInt (u2347 12 25 a0 (by decide))
                  have f2405 := cb_12_25 i2211 k_a0
                  refine ok_bdv (fun d2398 e2399 => ?_)
                  have i2400 : RI ad h.1 δ0 d2398 := by rw [e2399]; exact cr_112 L i2369 (show 0 ≤ (q_I r2367.2 12 25 a0).toInt by omega) (show (q_I r2367.2 12 25 a0).toInt ≤ 60 by omega)
                  have u2406 := kp_N u2375 (show q_I d2398 = q_I r2367.2 by rw [e2399]; rfl)
                  have v2407 : q_V d2398 = q_V δ := ((show q_V d2398 = q_V r2367.2 by rw [e2399]; rfl)).trans v2376
                  have v2408 := kr_s L (by decide) v2377 e2399
                  have f2412 := cb_12_24 i2400 k_a0
                  have f2413 : (q_I d2398 12 24 a0).toInt = (q_I r2367.2 12 24 a0).toInt := congrArg Int32.toInt (by rw [e2399]; rfl)
                  first | (have q2415 := te_addc (c := 1) (n := 1) rfl (q_I d2398 12 24 a0) (by omega) (by omega); obtain ⟨f2416, f2417, f2418⟩ := q2415) | (obtain ⟨q2415, f2416, f2417, f2418⟩ := ti_addc (c := 1) (n := 1) rfl (q_I d2398 12 24 a0))
                  refine ok_bdv (fun d2409 e2410 => ?_)
                  have i2411 : RI ad h.1 δ0 d2409 := by rw [e2410]; exact cs_12_24 L i2400 k_a0 (show 0 ≤ ((q_I d2398 12 24 a0) + (1 : Int32)).toInt by omega) (show ((q_I d2398 12 24 a0) + (1 : Int32)).toInt ≤ 4 by omega)
                  have u2419 := kp_I u2406 e2410
                  have v2420 : q_V d2409 = q_V δ := ((show q_V d2409 = q_V d2398 by rw [e2410]; rfl)).trans v2407
                  have v2421 := kr_N v2408 (show q_R d2409 = q_R d2398 by rw [e2410]; rfl)
                  unfold J_X12_thief_146
                  have ss2422 : NS ad a0 δ d1 := NS.t NS.r (NS.w e2 (by decide))
                  have ss2423 : NS0 ad a0 δ r2035.2 := NS0.t (NS.z ss2422) (NS.z ns2052)
                  have ss2424 : NS0 ad a0 δ r2065 := NS0.t ss2423 ns2085
                  have ns2426 : NS ad a0 d2111 r2117.2 := NS.t NS.r ns2146
                  have ns2427 : NS ad a0 d2111 r2157 := NS.t ns2426 ns2172
                  have ns2428 : NS ad a0 r2173 r2341.2 := NS.t NS.r ns2362
                  have ns2429 : NS ad a0 r2173 r2367.2 := NS.t ns2428 ns2380
                  have f2430 := cb_12_26 i2369 k_a0
                  have f2431 : (q_I r2367.2 12 26 a0).toInt = (q_I r2341.2 12 26 a0).toInt := congrArg Int32.toInt (u2371 12 26 a0 (by decide))
                  have f2432 := cb_12_26 i2343 k_a0
                  have f2433 : (q_I r2341.2 12 26 a0).toInt = (q_I r2173 12 26 a0).toInt := congrArg Int32.toInt (u2347 12 26 a0 (by decide))
                  have ss2425 : TK ad a0 δ d2409 := TK.good L ss2424 e2100 e2106 e2112 ns2427 p2217 (u2220 112 (by decide) (by decide) (by decide)) ns2429 (show (0 : Int) = 0 by omega) (show (0 : Int) = 0 by omega) (show (0 : Int) = 0 by omega) (by omega) e2399 e2410 (show (((q_I r2367.2 12 24 a0).toNatClampNeg : Nat) : Int) = (q_I δ 12 24 a0).toInt by omega) (show (q_I r2367.2 12 25 a0).toInt = (q_I r2367.2 12 25 a0).toInt by omega) (show ((q_I d2398 12 24 a0) + (1 : Int32)).toInt = (q_I δ 12 24 a0).toInt + 1 by omega) (show (q_I r2367.2 12 5 a0).toInt = -1 by omega) (show (q_I r2367.2 12 26 a0).toInt ≤ 500 by omega)
                  have f2434 := cb_12_2 i2411 k_a0
                  have f2435 : (q_I d2409 12 2 a0).toInt = (q_I d2398 12 2 a0).toInt := congrArg Int32.toInt (by rw [e2410]; exact rI_o (by decide))
                  have f2436 := cb_12_2 i2400 k_a0
                  have f2437 : (q_I d2398 12 2 a0).toInt = (q_I r2367.2 12 2 a0).toInt := congrArg Int32.toInt (by rw [e2399]; rfl)
                  have f2438 := cb_12_2 i2369 k_a0
                  have f2439 : (q_I r2367.2 12 2 a0).toInt = (q_I r2341.2 12 2 a0).toInt := congrArg Int32.toInt (u2371 12 2 a0 (by decide))
                  have f2440 := cb_12_2 i2343 k_a0
                  have f2441 : (q_I r2341.2 12 2 a0).toInt = (q_I r2173 12 2 a0).toInt := congrArg Int32.toInt (u2347 12 2 a0 (by decide))
                  have f2442 := cb_12_2 i2211 k_a0
                  have f2443 : (q_I r2173 12 2 a0).toInt = (q_I r2157 12 2 a0).toInt := congrArg Int32.toInt (u2218 12 2 a0 (by decide))
                  have f2444 := cb_12_2 i2161 k_a0
                  have f2445 : (q_I r2157 12 2 a0).toInt = (q_I r2117.2 12 2 a0).toInt := congrArg Int32.toInt (u2164 12 2 a0 (by decide))
                  have f2446 := cb_12_2 i2119 k_a0
                  have f2447 : (q_I r2117.2 12 2 a0).toInt = (q_I d2111 12 2 a0).toInt := congrArg Int32.toInt (u2123 12 2 a0 (by decide))
                  have f2448 := cb_12_2 i2113 k_a0
                  have f2449 : (q_I d2111 12 2 a0).toInt = (q_I d2105 12 2 a0).toInt := congrArg Int32.toInt (by rw [e2112]; exact rI_o (by decide))
                  have f2450 := cb_12_2 i2107 k_a0
                  have f2451 : (q_I d2105 12 2 a0).toInt = (q_I d2099 12 2 a0).toInt := congrArg Int32.toInt (by rw [e2106]; exact rI_o (by decide))
                  have f2452 := cb_12_2 i2101 k_a0
                  have f2453 : (q_I d2099 12 2 a0).toInt = (q_I r2065 12 2 a0).toInt := congrArg Int32.toInt (by rw [e2100]; exact rI_o (by decide))
                  exact ok_some (show RI ad h.1 δ0 d2409 ∧ (kp [(12, 0), (12, 2), (12, 3), (12, 4), (12, 5), (12, 6), (12, 7), (12, 8), (12, 24), (12, 25), (12, 26), (12, 27)] δ d2409 ∧ q_V d2409 = q_V δ ∧ kr ad [100, 112, 113, 114, 115, 116, 117] δ d2409) ∧ TK ad a0 δ d2409 ∧ (0 ≤ (x1).toInt ∧ (x1).toInt ≤ (q_I δ 12 2 a0).toInt → (q_I d2409 12 2 a0).toInt = 0) ∧ ((x1).toInt < 0 ∨ (q_I δ 12 2 a0).toInt < (x1).toInt → (q_I d2409 12 2 a0).toInt = (q_I δ 12 2 a0).toInt) from ⟨i2411, ⟨kp_w (by decide) u2419, v2420, kr_w (by decide) v2421⟩, ss2425, by first | assumption | omega, by first | assumption | omega⟩)
                · have c2454 : r2367.1.toInt ≠ (q_I r2367.2 12 24 a0).toInt := o_ne h2389
                  unfold J_X12_thief_146
                  have ss2455 : NS ad a0 δ d1 := NS.t NS.r (NS.w e2 (by decide))
                  have ss2456 : NS0 ad a0 δ r2035.2 := NS0.t (NS.z ss2455) (NS.z ns2052)
                  have ss2457 : NS0 ad a0 δ r2065 := NS0.t ss2456 ns2085
                  have ns2459 : NS ad a0 d2111 r2117.2 := NS.t NS.r ns2146
                  have ns2460 : NS ad a0 d2111 r2157 := NS.t ns2459 ns2172
                  have ns2461 : NS ad a0 r2173 r2341.2 := NS.t NS.r ns2362
                  have ns2462 : NS ad a0 r2173 r2367.2 := NS.t ns2461 ns2380
                  have ss2458 : TK ad a0 δ r2367.2 := TK.bad L ss2457 e2100 e2106 e2112 ns2460 p2217 (u2220 112 (by decide) (by decide) (by decide)) ns2462 (show (0 : Int) = 0 by omega) (show (0 : Int) = 0 by omega) (show (0 : Int) = 0 by omega) (by omega)
                  have f2463 := cb_12_2 i2369 k_a0
                  have f2464 : (q_I r2367.2 12 2 a0).toInt = (q_I r2341.2 12 2 a0).toInt := congrArg Int32.toInt (u2371 12 2 a0 (by decide))
                  have f2465 := cb_12_2 i2343 k_a0
                  have f2466 : (q_I r2341.2 12 2 a0).toInt = (q_I r2173 12 2 a0).toInt := congrArg Int32.toInt (u2347 12 2 a0 (by decide))
                  have f2467 := cb_12_2 i2211 k_a0
                  have f2468 : (q_I r2173 12 2 a0).toInt = (q_I r2157 12 2 a0).toInt := congrArg Int32.toInt (u2218 12 2 a0 (by decide))
                  have f2469 := cb_12_2 i2161 k_a0
                  have f2470 : (q_I r2157 12 2 a0).toInt = (q_I r2117.2 12 2 a0).toInt := congrArg Int32.toInt (u2164 12 2 a0 (by decide))
                  have f2471 := cb_12_2 i2119 k_a0
                  have f2472 : (q_I r2117.2 12 2 a0).toInt = (q_I d2111 12 2 a0).toInt := congrArg Int32.toInt (u2123 12 2 a0 (by decide))
                  have f2473 := cb_12_2 i2113 k_a0
                  have f2474 : (q_I d2111 12 2 a0).toInt = (q_I d2105 12 2 a0).toInt := congrArg Int32.toInt (by rw [e2112]; exact rI_o (by decide))
                  have f2475 := cb_12_2 i2107 k_a0
                  have f2476 : (q_I d2105 12 2 a0).toInt = (q_I d2099 12 2 a0).toInt := congrArg Int32.toInt (by rw [e2106]; exact rI_o (by decide))
                  have f2477 := cb_12_2 i2101 k_a0
                  have f2478 : (q_I d2099 12 2 a0).toInt = (q_I r2065 12 2 a0).toInt := congrArg Int32.toInt (by rw [e2100]; exact rI_o (by decide))
                  exact ok_some (show RI ad h.1 δ0 r2367.2 ∧ (kp [(12, 0), (12, 2), (12, 3), (12, 4), (12, 5), (12, 6), (12, 7), (12, 8), (12, 24), (12, 25), (12, 26), (12, 27)] δ r2367.2 ∧ q_V r2367.2 = q_V δ ∧ kr ad [100, 112, 113, 114, 115, 116, 117] δ r2367.2) ∧ TK ad a0 δ r2367.2 ∧ (0 ≤ (x1).toInt ∧ (x1).toInt ≤ (q_I δ 12 2 a0).toInt → (q_I r2367.2 12 2 a0).toInt = 0) ∧ ((x1).toInt < 0 ∨ (q_I δ 12 2 a0).toInt < (x1).toInt → (q_I r2367.2 12 2 a0).toInt = (q_I δ 12 2 a0).toInt) from ⟨i2369, ⟨kp_w (by decide) u2375, v2376, kr_w (by decide) v2377⟩, ss2458, by first | assumption | omega, by first | assumption | omega⟩)
              · have c2479 : r2341.1.toInt ≠ (0 : Int) := o_ne h2365
                refine ok_bind (k_X12_wrong L hN (a0 := a0) (x1 := (1 : Int32)) (x2 := (q_I r2341.2 12 4 a0)) k_a0 (show 0 ≤ ((q_I r2341.2 12 4 a0)).toInt by first | assumption | omega) (show ((q_I r2341.2 12 4 a0)).toInt ≤ 500 by first | assumption | omega) (show 0 ≤ (1 : Int) by first | assumption | omega) (show (1 : Int) ≤ 4 by first | assumption | omega) i2343) (fun r2480 hr2481 => ?_)
                obtain ⟨i2482, ⟨u2485, u2486, u2487, u2488⟩, p2483, p2484⟩ := hr2481
                have u2489 := kp_t u2351 u2485
                have v2490 : q_V r2480 = q_V δ := (u2486).trans v2352
                have v2491 := kr_t v2353 u2488
                have f2492 := cb_12_5 i2482 k_a0
                have ns2493 : NS ad a0 r2341.2 r2480 := ⟨u2488 112 (by decide) (by decide) (by decide), u2488 113 (by decide) (by decide) (by decide), u2488 114 (by decide) (by decide) (by decide), u2488 115 (by decide) (by decide) (by decide), u2488 116 (by decide) (by decide) (by decide), u2485 12 24 _ (by decide), u2485 12 25 _ (by decide), u2485 12 26 _ (by decide), u2485 12 27 _ (by decide), fun z => by omega⟩
                unfold J_X12_thief_106
                refine ok_bind (k_X12_result L hN (a0 := a0) (x1 := (q_I r2480 12 24 a0)) k_a0 i2482) (fun r2494 hr2495 => ?_)
                obtain ⟨i2496, ⟨u2498, u2499, u2500, u2501⟩, p2497⟩ := hr2495
                have u2502 := kp_t u2489 u2498
                have v2503 : q_V r2494.2 = q_V δ := (u2499).trans v2490
                have v2504 := kr_t v2491 u2501
                have f2505 := ti_b r2494.1
                have f2506 := ti_b r2494.1
                have f2508 := cb_12_5 i2496 k_a0
                have f2509 : (q_I r2494.2 12 5 a0).toInt = (q_I r2480 12 5 a0).toInt := congrArg Int32.toInt (u2498 12 5 a0 (by decide))
                have ns2507 : NS ad a0 r2480 r2494.2 := ⟨u2501 112 (by decide) (by decide) (by decide), u2501 113 (by decide) (by decide) (by decide), u2501 114 (by decide) (by decide) (by decide), u2501 115 (by decide) (by decide) (by decide), u2501 116 (by decide) (by decide) (by decide), u2498 12 24 _ (by decide), u2498 12 25 _ (by decide), u2498 12 26 _ (by decide), u2498 12 27 _ (by decide), fun z => by omega⟩
                have f2510 := cb_12_24 i2496 k_a0
                have f2511 : (q_I r2494.2 12 24 a0).toInt = (q_I r2480 12 24 a0).toInt := congrArg Int32.toInt (u2498 12 24 a0 (by decide))
                have f2512 := cb_12_24 i2482 k_a0
                have f2513 : (q_I r2480 12 24 a0).toInt = (q_I r2341.2 12 24 a0).toInt := congrArg Int32.toInt (u2485 12 24 a0 (by decide))
                have f2514 := cb_12_24 i2343 k_a0
                have f2515 : (q_I r2341.2 12 24 a0).toInt = (q_I r2173 12 24 a0).toInt := congrArg Int32.toInt (u2347 12 24 a0 (by decide))
                have f2516 := cb_12_24 i2211 k_a0
                have f2517 : (q_I r2173 12 24 a0).toInt = (q_I r2157 12 24 a0).toInt := congrArg Int32.toInt (u2218 12 24 a0 (by decide))
                refine ok_ite (fun h2518 => ?_) (fun h2518 => ?_)
                · have c2519 : r2494.1.toInt = (q_I r2494.2 12 24 a0).toInt := o_eq h2518
                  obtain ⟨b2520, o2521, k2522, n2523⟩ := gO_12_28 L k_a0
                  obtain rfl := gS_12_28 L k_a0 o2521
                  refine ok_at o2521 ?_
                  have t2524 := ti_tn (q_I r2494.2 12 24 a0)
                  refine ok_gd (fun hc2525 => ?_) ?_
                  · rcases hc2525 with hc2525 | hc2525
                    · have c2526 : (q_I r2494.2 12 24 a0).toInt < (0 : Int) := o_lt hc2525
                      omega
                    · omega
                  have f2530 := cb_12_25 i2496 k_a0
                  have f2531 : (q_I r2494.2 12 25 a0).toInt = (q_I r2480 12 25 a0).toInt := congrArg Int32.toInt (u2498 12 25 a0 (by decide))
                  have f2532 := cb_12_25 i2482 k_a0
                  have f2533 : (q_I r2480 12 25 a0).toInt = (q_I r2341.2 12 25 a0).toInt := congrArg Int32.toInt (u2485 12 25 a0 (by decide))
                  have f2534 := cb_12_25 i2343 k_a0
                  have f2535 : (q_I r2341.2 12 25 a0).toInt = (q_I r2173 12 25 a0).toInt := congrArg Int32.toInt (u2347 12 25 a0 (by decide))
                  have f2536 := cb_12_25 i2211 k_a0
                  refine ok_bdv (fun d2527 e2528 => ?_)
                  have i2529 : RI ad h.1 δ0 d2527 := by rw [e2528]; exact cr_112 L i2496 (show 0 ≤ (q_I r2494.2 12 25 a0).toInt by omega) (show (q_I r2494.2 12 25 a0).toInt ≤ 60 by omega)
                  have u2537 := kp_N u2502 (show q_I d2527 = q_I r2494.2 by rw [e2528]; rfl)
                  have v2538 : q_V d2527 = q_V δ := ((show q_V d2527 = q_V r2494.2 by rw [e2528]; rfl)).trans v2503
                  have v2539 := kr_s L (by decide) v2504 e2528
                  have f2543 := cb_12_24 i2529 k_a0
                  have f2544 : (q_I d2527 12 24 a0).toInt = (q_I r2494.2 12 24 a0).toInt := congrArg Int32.toInt (by rw [e2528]; rfl)
                  first | (have q2546 := te_addc (c := 1) (n := 1) rfl (q_I d2527 12 24 a0) (by omega) (by omega); obtain ⟨f2547, f2548, f2549⟩ := q2546) | (obtain ⟨q2546, f2547, f2548, f2549⟩ := ti_addc (c := 1) (n := 1) rfl (q_I d2527 12 24 a0))
                  refine ok_bdv (fun d2540 e2541 => ?_)
                  have i2542 : RI ad h.1 δ0 d2540 := by rw [e2541]; exact cs_12_24 L i2529 k_a0 (show 0 ≤ ((q_I d2527 12 24 a0) + (1 : Int32)).toInt by omega) (show ((q_I d2527 12 24 a0) + (1 : Int32)).toInt ≤ 4 by omega)
                  have u2550 := kp_I u2537 e2541
                  have v2551 : q_V d2540 = q_V δ := ((show q_V d2540 = q_V d2527 by rw [e2541]; rfl)).trans v2538
                  have v2552 := kr_N v2539 (show q_R d2540 = q_R d2527 by rw [e2541]; rfl)
                  unfold J_X12_thief_146
                  have ss2553 : NS ad a0 δ d1 := NS.t NS.r (NS.w e2 (by decide))
                  have ss2554 : NS0 ad a0 δ r2035.2 := NS0.t (NS.z ss2553) (NS.z ns2052)
                  have ss2555 : NS0 ad a0 δ r2065 := NS0.t ss2554 ns2085
                  have ns2557 : NS ad a0 d2111 r2117.2 := NS.t NS.r ns2146
                  have ns2558 : NS ad a0 d2111 r2157 := NS.t ns2557 ns2172
                  have ns2559 : NS ad a0 r2173 r2341.2 := NS.t NS.r ns2362
                  have ns2560 : NS ad a0 r2173 r2480 := NS.t ns2559 ns2493
                  have ns2561 : NS ad a0 r2173 r2494.2 := NS.t ns2560 ns2507
                  have f2562 := cb_12_26 i2496 k_a0
                  have f2563 : (q_I r2494.2 12 26 a0).toInt = (q_I r2480 12 26 a0).toInt := congrArg Int32.toInt (u2498 12 26 a0 (by decide))
                  have f2564 := cb_12_26 i2482 k_a0
                  have f2565 : (q_I r2480 12 26 a0).toInt = (q_I r2341.2 12 26 a0).toInt := congrArg Int32.toInt (u2485 12 26 a0 (by decide))
                  have f2566 := cb_12_26 i2343 k_a0
                  have f2567 : (q_I r2341.2 12 26 a0).toInt = (q_I r2173 12 26 a0).toInt := congrArg Int32.toInt (u2347 12 26 a0 (by decide))
                  have ss2556 : TK ad a0 δ d2540 := TK.good L ss2555 e2100 e2106 e2112 ns2558 p2217 (u2220 112 (by decide) (by decide) (by decide)) ns2561 (show (0 : Int) = 0 by omega) (show (0 : Int) = 0 by omega) (show (0 : Int) = 0 by omega) (by omega) e2528 e2541 (show (((q_I r2494.2 12 24 a0).toNatClampNeg : Nat) : Int) = (q_I δ 12 24 a0).toInt by omega) (show (q_I r2494.2 12 25 a0).toInt = (q_I r2494.2 12 25 a0).toInt by omega) (show ((q_I d2527 12 24 a0) + (1 : Int32)).toInt = (q_I δ 12 24 a0).toInt + 1 by omega) (show (q_I r2494.2 12 5 a0).toInt = -1 by omega) (show (q_I r2494.2 12 26 a0).toInt ≤ 500 by omega)
                  have f2568 := cb_12_2 i2542 k_a0
                  have f2569 : (q_I d2540 12 2 a0).toInt = (q_I d2527 12 2 a0).toInt := congrArg Int32.toInt (by rw [e2541]; exact rI_o (by decide))
                  have f2570 := cb_12_2 i2529 k_a0
                  have f2571 : (q_I d2527 12 2 a0).toInt = (q_I r2494.2 12 2 a0).toInt := congrArg Int32.toInt (by rw [e2528]; rfl)
                  have f2572 := cb_12_2 i2496 k_a0
                  have f2573 : (q_I r2494.2 12 2 a0).toInt = (q_I r2480 12 2 a0).toInt := congrArg Int32.toInt (u2498 12 2 a0 (by decide))
                  have f2574 := cb_12_2 i2482 k_a0
                  have f2575 : (q_I r2480 12 2 a0).toInt = (q_I r2341.2 12 2 a0).toInt := congrArg Int32.toInt (u2485 12 2 a0 (by decide))
                  have f2576 := cb_12_2 i2343 k_a0
                  have f2577 : (q_I r2341.2 12 2 a0).toInt = (q_I r2173 12 2 a0).toInt := congrArg Int32.toInt (u2347 12 2 a0 (by decide))
                  have f2578 := cb_12_2 i2211 k_a0
                  have f2579 : (q_I r2173 12 2 a0).toInt = (q_I r2157 12 2 a0).toInt := congrArg Int32.toInt (u2218 12 2 a0 (by decide))
                  have f2580 := cb_12_2 i2161 k_a0
                  have f2581 : (q_I r2157 12 2 a0).toInt = (q_I r2117.2 12 2 a0).toInt := congrArg Int32.toInt (u2164 12 2 a0 (by decide))
                  have f2582 := cb_12_2 i2119 k_a0
                  have f2583 : (q_I r2117.2 12 2 a0).toInt = (q_I d2111 12 2 a0).toInt := congrArg Int32.toInt (u2123 12 2 a0 (by decide))
                  have f2584 := cb_12_2 i2113 k_a0
                  have f2585 : (q_I d2111 12 2 a0).toInt = (q_I d2105 12 2 a0).toInt := congrArg Int32.toInt (by rw [e2112]; exact rI_o (by decide))
                  have f2586 := cb_12_2 i2107 k_a0
                  have f2587 : (q_I d2105 12 2 a0).toInt = (q_I d2099 12 2 a0).toInt := congrArg Int32.toInt (by rw [e2106]; exact rI_o (by decide))
                  have f2588 := cb_12_2 i2101 k_a0
                  have f2589 : (q_I d2099 12 2 a0).toInt = (q_I r2065 12 2 a0).toInt := congrArg Int32.toInt (by rw [e2100]; exact rI_o (by decide))
                  exact ok_some (show RI ad h.1 δ0 d2540 ∧ (kp [(12, 0), (12, 2), (12, 3), (12, 4), (12, 5), (12, 6), (12, 7), (12, 8), (12, 24), (12, 25), (12, 26), (12, 27)] δ d2540 ∧ q_V d2540 = q_V δ ∧ kr ad [100, 112, 113, 114, 115, 116, 117] δ d2540) ∧ TK ad a0 δ d2540 ∧ (0 ≤ (x1).toInt ∧ (x1).toInt ≤ (q_I δ 12 2 a0).toInt → (q_I d2540 12 2 a0).toInt = 0) ∧ ((x1).toInt < 0 ∨ (q_I δ 12 2 a0).toInt < (x1).toInt → (q_I d2540 12 2 a0).toInt = (q_I δ 12 2 a0).toInt) from ⟨i2542, ⟨kp_w (by decide) u2550, v2551, kr_w (by decide) v2552⟩, ss2556, by first | assumption | omega, by first | assumption | omega⟩)
                · have c2590 : r2494.1.toInt ≠ (q_I r2494.2 12 24 a0).toInt := o_ne h2518
                  unfold J_X12_thief_146
                  have ss2591 : NS ad a0 δ d1 := NS.t NS.r (NS.w e2 (by decide))
                  have ss2592 : NS0 ad a0 δ r2035.2 := NS0.t (NS.z ss2591) (NS.z ns2052)
                  have ss2593 : NS0 ad a0 δ r2065 := NS0.t ss2592 ns2085
                  have ns2595 : NS ad a0 d2111 r2117.2 := NS.t NS.r ns2146
                  have ns2596 : NS ad a0 d2111 r2157 := NS.t ns2595 ns2172
                  have ns2597 : NS ad a0 r2173 r2341.2 := NS.t NS.r ns2362
                  have ns2598 : NS ad a0 r2173 r2480 := NS.t ns2597 ns2493
                  have ns2599 : NS ad a0 r2173 r2494.2 := NS.t ns2598 ns2507
                  have ss2594 : TK ad a0 δ r2494.2 := TK.bad L ss2593 e2100 e2106 e2112 ns2596 p2217 (u2220 112 (by decide) (by decide) (by decide)) ns2599 (show (0 : Int) = 0 by omega) (show (0 : Int) = 0 by omega) (show (0 : Int) = 0 by omega) (by omega)
                  have f2600 := cb_12_2 i2496 k_a0
                  have f2601 : (q_I r2494.2 12 2 a0).toInt = (q_I r2480 12 2 a0).toInt := congrArg Int32.toInt (u2498 12 2 a0 (by decide))
                  have f2602 := cb_12_2 i2482 k_a0
                  have f2603 : (q_I r2480 12 2 a0).toInt = (q_I r2341.2 12 2 a0).toInt := congrArg Int32.toInt (u2485 12 2 a0 (by decide))
                  have f2604 := cb_12_2 i2343 k_a0
                  have f2605 : (q_I r2341.2 12 2 a0).toInt = (q_I r2173 12 2 a0).toInt := congrArg Int32.toInt (u2347 12 2 a0 (by decide))
                  have f2606 := cb_12_2 i2211 k_a0
                  have f2607 : (q_I r2173 12 2 a0).toInt = (q_I r2157 12 2 a0).toInt := congrArg Int32.toInt (u2218 12 2 a0 (by decide))
                  have f2608 := cb_12_2 i2161 k_a0
                  have f2609 : (q_I r2157 12 2 a0).toInt = (q_I r2117.2 12 2 a0).toInt := congrArg Int32.toInt (u2164 12 2 a0 (by decide))
                  have f2610 := cb_12_2 i2119 k_a0
                  have f2611 : (q_I r2117.2 12 2 a0).toInt = (q_I d2111 12 2 a0).toInt := congrArg Int32.toInt (u2123 12 2 a0 (by decide))
                  have f2612 := cb_12_2 i2113 k_a0
                  have f2613 : (q_I d2111 12 2 a0).toInt = (q_I d2105 12 2 a0).toInt := congrArg Int32.toInt (by rw [e2112]; exact rI_o (by decide))
                  have f2614 := cb_12_2 i2107 k_a0
                  have f2615 : (q_I d2105 12 2 a0).toInt = (q_I d2099 12 2 a0).toInt := congrArg Int32.toInt (by rw [e2106]; exact rI_o (by decide))
                  have f2616 := cb_12_2 i2101 k_a0
                  have f2617 : (q_I d2099 12 2 a0).toInt = (q_I r2065 12 2 a0).toInt := congrArg Int32.toInt (by rw [e2100]; exact rI_o (by decide))
                  exact ok_some (show RI ad h.1 δ0 r2494.2 ∧ (kp [(12, 0), (12, 2), (12, 3), (12, 4), (12, 5), (12, 6), (12, 7), (12, 8), (12, 24), (12, 25), (12, 26), (12, 27)] δ r2494.2 ∧ q_V r2494.2 = q_V δ ∧ kr ad [100, 112, 113, 114, 115, 116, 117] δ r2494.2) ∧ TK ad a0 δ r2494.2 ∧ (0 ≤ (x1).toInt ∧ (x1).toInt ≤ (q_I δ 12 2 a0).toInt → (q_I r2494.2 12 2 a0).toInt = 0) ∧ ((x1).toInt < 0 ∨ (q_I δ 12 2 a0).toInt < (x1).toInt → (q_I r2494.2 12 2 a0).toInt = (q_I δ 12 2 a0).toInt) from ⟨i2496, ⟨kp_w (by decide) u2502, v2503, kr_w (by decide) v2504⟩, ss2594, by first | assumption | omega, by first | assumption | omega⟩)
          · have c2618 : r2117.1.toInt ≠ (0 : Int) := o_ne h2155
            unfold J_X12_thief_79
            have f2621 := cb_12_24 i2119 k_a0
            have f2622 : (q_I r2117.2 12 24 a0).toInt = (q_I d2111 12 24 a0).toInt := congrArg Int32.toInt (u2123 12 24 a0 (by decide))
            have f2623 := cb_12_24 i2113 k_a0
            have f2624 : (q_I d2111 12 24 a0).toInt = (q_I d2105 12 24 a0).toInt := congrArg Int32.toInt (by rw [e2112]; exact rI_o (by decide))
            have f2625 := cb_12_24 i2107 k_a0
            have f2626 : (q_I d2105 12 24 a0).toInt = (q_I d2099 12 24 a0).toInt := congrArg Int32.toInt (by rw [e2106]; exact rI_o (by decide))
            have f2627 := cb_12_24 i2101 k_a0
            have f2628 : (q_I d2099 12 24 a0).toInt = (q_I r2065 12 24 a0).toInt := congrArg Int32.toInt (by rw [e2100]; exact rI_o (by decide))
            have f2629 := cb_12_26 i2119 k_a0
            have f2630 : (q_I r2117.2 12 26 a0).toInt = (q_I d2111 12 26 a0).toInt := congrArg Int32.toInt (u2123 12 26 a0 (by decide))
            have f2631 := cb_12_26 i2113 k_a0
            have f2632 : (q_I d2111 12 26 a0).toInt = (q_I d2105 12 26 a0).toInt := congrArg Int32.toInt (by rw [e2112]; exact rI_o (by decide))
            have f2633 := cb_12_26 i2107 k_a0
            have f2634 : (q_I d2105 12 26 a0).toInt = (0 : Int) := congrArg Int32.toInt (show q_I d2105 12 26 a0 = (0 : Int32) by rw [e2106]; exact rI_s)
            have f2635 := ti_b (q_I r2117.2 12 7 a0)
            have f2636 : (q_I r2117.2 12 7 a0).toInt = (q_I d2111 12 7 a0).toInt := congrArg Int32.toInt (u2123 12 7 a0 (by decide))
            have f2637 := ti_b (q_I d2111 12 7 a0)
            have f2638 : (q_I d2111 12 7 a0).toInt = (q_I d2105 12 7 a0).toInt := congrArg Int32.toInt (by rw [e2112]; exact rI_o (by decide))
            have f2639 := ti_b (q_I d2105 12 7 a0)
            have f2640 : (q_I d2105 12 7 a0).toInt = (q_I d2099 12 7 a0).toInt := congrArg Int32.toInt (by rw [e2106]; exact rI_o (by decide))
            have f2641 := ti_b (q_I d2099 12 7 a0)
            have f2642 : (q_I d2099 12 7 a0).toInt = (q_I r2065 12 7 a0).toInt := congrArg Int32.toInt (by rw [e2100]; exact rI_o (by decide))
            have f2643 := cb_12_27 i2119 k_a0
            have f2644 : (q_I r2117.2 12 27 a0).toInt = (q_I d2111 12 27 a0).toInt := congrArg Int32.toInt (u2123 12 27 a0 (by decide))
            have f2645 := cb_12_27 i2113 k_a0
            have f2646 : (q_I d2111 12 27 a0).toInt = (0 : Int) := congrArg Int32.toInt (show q_I d2111 12 27 a0 = (0 : Int32) by rw [e2112]; exact rI_s)
            refine ok_bind (k_X12_readSteps L hN (a0 := a0) k_a0 (show (q_I r2117.2 12 24 a0).toInt ≤ 3 by first | assumption | omega) (show (q_I r2117.2 12 26 a0).toInt ≤ (q_I r2117.2 12 4 a0).toInt by first | assumption | omega) (show (q_I r2117.2 12 7 a0).toInt = 0 by first | assumption | omega) (show 4 - (q_I r2117.2 12 27 a0).toInt < 20 by first | assumption | omega) i2119) (fun r2619 hr2620 => ?_)
            obtain ⟨i2647, ⟨u2654, u2655, u2656⟩, p2648, p2649, p2650, p2651, p2652, p2653⟩ := hr2620
            have u2657 := kp_t u2127 u2654
            have v2658 : q_V r2619 = q_V δ := (u2655).trans v2128
            have v2659 := kr_t v2129 u2656
            have f2660 := cb_12_4 i2647 k_a0
            have f2661 := cb_12_5 i2647 k_a0
            have f2662 := ti_b (q_I r2619 12 7 a0)
            have f2663 := cb_12_27 i2647 k_a0
            have f2664 := cb_12_26 i2647 k_a0
            refine ok_bind (k_X12_fine L hN (a0 := a0) k_a0 i2647) (fun r2665 hr2666 => ?_)
            obtain ⟨i2667, p2668, p2669, p2670⟩ := hr2666
            try rw [i2667]
            have f2671 := bo_l p2668
            have f2672 := ti_b r2665.1
            have f2673 := ti_b r2665.1
            refine ok_ite (fun h2674 => ?_) (fun h2674 => ?_)
            · have c2675 : r2665.1.toInt = (0 : Int) := o_eq h2674
              unfold J_X12_thief_106
              refine ok_bind (k_X12_result L hN (a0 := a0) (x1 := (q_I r2619 12 24 a0)) k_a0 i2647) (fun r2676 hr2677 => ?_)
              obtain ⟨i2678, ⟨u2680, u2681, u2682, u2683⟩, p2679⟩ := hr2677
              have u2684 := kp_t u2657 u2680
              have v2685 : q_V r2676.2 = q_V δ := (u2681).trans v2658
              have v2686 := kr_t v2659 u2683
              have f2687 := ti_b r2676.1
              have f2688 := ti_b r2676.1
              have f2690 := cb_12_5 i2678 k_a0
              have f2691 : (q_I r2676.2 12 5 a0).toInt = (q_I r2619 12 5 a0).toInt := congrArg Int32.toInt (u2680 12 5 a0 (by decide))
              have ns2689 : NS ad a0 r2619 r2676.2 := ⟨u2683 112 (by decide) (by decide) (by decide), u2683 113 (by decide) (by decide) (by decide), u2683 114 (by decide) (by decide) (by decide), u2683 115 (by decide) (by decide) (by decide), u2683 116 (by decide) (by decide) (by decide), u2680 12 24 _ (by decide), u2680 12 25 _ (by decide), u2680 12 26 _ (by decide), u2680 12 27 _ (by decide), fun z => by omega⟩
              have f2692 := cb_12_24 i2678 k_a0
              have f2693 : (q_I r2676.2 12 24 a0).toInt = (q_I r2619 12 24 a0).toInt := congrArg Int32.toInt (u2680 12 24 a0 (by decide))
              have f2694 := cb_12_24 i2647 k_a0
              have f2695 : (q_I r2619 12 24 a0).toInt = (q_I r2117.2 12 24 a0).toInt := congrArg Int32.toInt (u2654 12 24 a0 (by decide))
              refine ok_ite (fun h2696 => ?_) (fun h2696 => ?_)
              · have c2697 : r2676.1.toInt = (q_I r2676.2 12 24 a0).toInt := o_eq h2696
                obtain ⟨b2698, o2699, k2700, n2701⟩ := gO_12_28 L k_a0
                obtain rfl := gS_12_28 L k_a0 o2699
                refine ok_at o2699 ?_
                have t2702 := ti_tn (q_I r2676.2 12 24 a0)
                refine ok_gd (fun hc2703 => ?_) ?_
                · rcases hc2703 with hc2703 | hc2703
                  · have c2704 : (q_I r2676.2 12 24 a0).toInt < (0 : Int) := o_lt hc2703
                    omega
                  · omega
                have f2708 := cb_12_25 i2678 k_a0
                have f2709 : (q_I r2676.2 12 25 a0).toInt = (q_I r2619 12 25 a0).toInt := congrArg Int32.toInt (u2680 12 25 a0 (by decide))
                have f2710 := cb_12_25 i2647 k_a0
                refine ok_bdv (fun d2705 e2706 => ?_)
                have i2707 : RI ad h.1 δ0 d2705 := by rw [e2706]; exact cr_112 L i2678 (show 0 ≤ (q_I r2676.2 12 25 a0).toInt by omega) (show (q_I r2676.2 12 25 a0).toInt ≤ 60 by omega)
                have u2711 := kp_N u2684 (show q_I d2705 = q_I r2676.2 by rw [e2706]; rfl)
                have v2712 : q_V d2705 = q_V δ := ((show q_V d2705 = q_V r2676.2 by rw [e2706]; rfl)).trans v2685
                have v2713 := kr_s L (by decide) v2686 e2706
                have f2717 := cb_12_24 i2707 k_a0
                have f2718 : (q_I d2705 12 24 a0).toInt = (q_I r2676.2 12 24 a0).toInt := congrArg Int32.toInt (by rw [e2706]; rfl)
                first | (have q2720 := te_addc (c := 1) (n := 1) rfl (q_I d2705 12 24 a0) (by omega) (by omega); obtain ⟨f2721, f2722, f2723⟩ := q2720) | (obtain ⟨q2720, f2721, f2722, f2723⟩ := ti_addc (c := 1) (n := 1) rfl (q_I d2705 12 24 a0))
                refine ok_bdv (fun d2714 e2715 => ?_)
                have i2716 : RI ad h.1 δ0 d2714 := by rw [e2715]; exact cs_12_24 L i2707 k_a0 (show 0 ≤ ((q_I d2705 12 24 a0) + (1 : Int32)).toInt by omega) (show ((q_I d2705 12 24 a0) + (1 : Int32)).toInt ≤ 4 by omega)
                have u2724 := kp_I u2711 e2715
                have v2725 : q_V d2714 = q_V δ := ((show q_V d2714 = q_V d2705 by rw [e2715]; rfl)).trans v2712
                have v2726 := kr_N v2713 (show q_R d2714 = q_R d2705 by rw [e2715]; rfl)
                unfold J_X12_thief_146
                have ss2727 : NS ad a0 δ d1 := NS.t NS.r (NS.w e2 (by decide))
                have ss2728 : NS0 ad a0 δ r2035.2 := NS0.t (NS.z ss2727) (NS.z ns2052)
                have ss2729 : NS0 ad a0 δ r2065 := NS0.t ss2728 ns2085
                have ns2731 : NS ad a0 d2111 r2117.2 := NS.t NS.r ns2146
                have ns2732 : NS ad a0 r2619 r2676.2 := NS.t NS.r ns2689
                have f2733 := cb_12_26 i2678 k_a0
                have f2734 : (q_I r2676.2 12 26 a0).toInt = (q_I r2619 12 26 a0).toInt := congrArg Int32.toInt (u2680 12 26 a0 (by decide))
                have ss2730 : TK ad a0 δ d2714 := TK.good L ss2729 e2100 e2106 e2112 ns2731 p2653 (u2656 112 (by decide) (by decide) (by decide)) ns2732 (show (0 : Int) = 0 by omega) (show (0 : Int) = 0 by omega) (show (0 : Int) = 0 by omega) (by omega) e2706 e2715 (show (((q_I r2676.2 12 24 a0).toNatClampNeg : Nat) : Int) = (q_I δ 12 24 a0).toInt by omega) (show (q_I r2676.2 12 25 a0).toInt = (q_I r2676.2 12 25 a0).toInt by omega) (show ((q_I d2705 12 24 a0) + (1 : Int32)).toInt = (q_I δ 12 24 a0).toInt + 1 by omega) (show (q_I r2676.2 12 5 a0).toInt = -1 by omega) (show (q_I r2676.2 12 26 a0).toInt ≤ 500 by omega)
                have f2735 := cb_12_2 i2716 k_a0
                have f2736 : (q_I d2714 12 2 a0).toInt = (q_I d2705 12 2 a0).toInt := congrArg Int32.toInt (by rw [e2715]; exact rI_o (by decide))
                have f2737 := cb_12_2 i2707 k_a0
                have f2738 : (q_I d2705 12 2 a0).toInt = (q_I r2676.2 12 2 a0).toInt := congrArg Int32.toInt (by rw [e2706]; rfl)
                have f2739 := cb_12_2 i2678 k_a0
                have f2740 : (q_I r2676.2 12 2 a0).toInt = (q_I r2619 12 2 a0).toInt := congrArg Int32.toInt (u2680 12 2 a0 (by decide))
                have f2741 := cb_12_2 i2647 k_a0
                have f2742 : (q_I r2619 12 2 a0).toInt = (q_I r2117.2 12 2 a0).toInt := congrArg Int32.toInt (u2654 12 2 a0 (by decide))
                have f2743 := cb_12_2 i2119 k_a0
                have f2744 : (q_I r2117.2 12 2 a0).toInt = (q_I d2111 12 2 a0).toInt := congrArg Int32.toInt (u2123 12 2 a0 (by decide))
                have f2745 := cb_12_2 i2113 k_a0
                have f2746 : (q_I d2111 12 2 a0).toInt = (q_I d2105 12 2 a0).toInt := congrArg Int32.toInt (by rw [e2112]; exact rI_o (by decide))
                have f2747 := cb_12_2 i2107 k_a0
                have f2748 : (q_I d2105 12 2 a0).toInt = (q_I d2099 12 2 a0).toInt := congrArg Int32.toInt (by rw [e2106]; exact rI_o (by decide))
                have f2749 := cb_12_2 i2101 k_a0
                have f2750 : (q_I d2099 12 2 a0).toInt = (q_I r2065 12 2 a0).toInt := congrArg Int32.toInt (by rw [e2100]; exact rI_o (by decide))
                exact ok_some (show RI ad h.1 δ0 d2714 ∧ (kp [(12, 0), (12, 2), (12, 3), (12, 4), (12, 5), (12, 6), (12, 7), (12, 8), (12, 24), (12, 25), (12, 26), (12, 27)] δ d2714 ∧ q_V d2714 = q_V δ ∧ kr ad [100, 112, 113, 114, 115, 116, 117] δ d2714) ∧ TK ad a0 δ d2714 ∧ (0 ≤ (x1).toInt ∧ (x1).toInt ≤ (q_I δ 12 2 a0).toInt → (q_I d2714 12 2 a0).toInt = 0) ∧ ((x1).toInt < 0 ∨ (q_I δ 12 2 a0).toInt < (x1).toInt → (q_I d2714 12 2 a0).toInt = (q_I δ 12 2 a0).toInt) from ⟨i2716, ⟨kp_w (by decide) u2724, v2725, kr_w (by decide) v2726⟩, ss2730, by first | assumption | omega, by first | assumption | omega⟩)
              · have c2751 : r2676.1.toInt ≠ (q_I r2676.2 12 24 a0).toInt := o_ne h2696
                unfold J_X12_thief_146
                have ss2752 : NS ad a0 δ d1 := NS.t NS.r (NS.w e2 (by decide))
                have ss2753 : NS0 ad a0 δ r2035.2 := NS0.t (NS.z ss2752) (NS.z ns2052)
                have ss2754 : NS0 ad a0 δ r2065 := NS0.t ss2753 ns2085
                have ns2756 : NS ad a0 d2111 r2117.2 := NS.t NS.r ns2146
                have ns2757 : NS ad a0 r2619 r2676.2 := NS.t NS.r ns2689
                have ss2755 : TK ad a0 δ r2676.2 := TK.bad L ss2754 e2100 e2106 e2112 ns2756 p2653 (u2656 112 (by decide) (by decide) (by decide)) ns2757 (show (0 : Int) = 0 by omega) (show (0 : Int) = 0 by omega) (show (0 : Int) = 0 by omega) (by omega)
                have f2758 := cb_12_2 i2678 k_a0
                have f2759 : (q_I r2676.2 12 2 a0).toInt = (q_I r2619 12 2 a0).toInt := congrArg Int32.toInt (u2680 12 2 a0 (by decide))
                have f2760 := cb_12_2 i2647 k_a0
                have f2761 : (q_I r2619 12 2 a0).toInt = (q_I r2117.2 12 2 a0).toInt := congrArg Int32.toInt (u2654 12 2 a0 (by decide))
                have f2762 := cb_12_2 i2119 k_a0
                have f2763 : (q_I r2117.2 12 2 a0).toInt = (q_I d2111 12 2 a0).toInt := congrArg Int32.toInt (u2123 12 2 a0 (by decide))
                have f2764 := cb_12_2 i2113 k_a0
                have f2765 : (q_I d2111 12 2 a0).toInt = (q_I d2105 12 2 a0).toInt := congrArg Int32.toInt (by rw [e2112]; exact rI_o (by decide))
                have f2766 := cb_12_2 i2107 k_a0
                have f2767 : (q_I d2105 12 2 a0).toInt = (q_I d2099 12 2 a0).toInt := congrArg Int32.toInt (by rw [e2106]; exact rI_o (by decide))
                have f2768 := cb_12_2 i2101 k_a0
                have f2769 : (q_I d2099 12 2 a0).toInt = (q_I r2065 12 2 a0).toInt := congrArg Int32.toInt (by rw [e2100]; exact rI_o (by decide))
                exact ok_some (show RI ad h.1 δ0 r2676.2 ∧ (kp [(12, 0), (12, 2), (12, 3), (12, 4), (12, 5), (12, 6), (12, 7), (12, 8), (12, 24), (12, 25), (12, 26), (12, 27)] δ r2676.2 ∧ q_V r2676.2 = q_V δ ∧ kr ad [100, 112, 113, 114, 115, 116, 117] δ r2676.2) ∧ TK ad a0 δ r2676.2 ∧ (0 ≤ (x1).toInt ∧ (x1).toInt ≤ (q_I δ 12 2 a0).toInt → (q_I r2676.2 12 2 a0).toInt = 0) ∧ ((x1).toInt < 0 ∨ (q_I δ 12 2 a0).toInt < (x1).toInt → (q_I r2676.2 12 2 a0).toInt = (q_I δ 12 2 a0).toInt) from ⟨i2678, ⟨kp_w (by decide) u2684, v2685, kr_w (by decide) v2686⟩, ss2755, by first | assumption | omega, by first | assumption | omega⟩)
            · have c2770 : r2665.1.toInt ≠ (0 : Int) := o_ne h2674
              refine ok_bind (k_X12_isMore L hN (a0 := a0) k_a0 i2647) (fun r2771 hr2772 => ?_)
              obtain ⟨i2773, ⟨u2777, u2778, u2779, u2780⟩, p2774, p2775, p2776⟩ := hr2772
              have u2781 := kp_t u2657 u2777
              have v2782 : q_V r2771.2 = q_V δ := (u2778).trans v2658
              have v2783 := kr_t v2659 u2780
              have f2784 := bo_l p2774
              have f2785 := cb_12_4 i2773 k_a0
              have f2786 := ti_b r2771.1
              have f2787 := cb_12_3 i2647 k_a0
              have f2788 : (q_I r2619 12 3 a0).toInt = (q_I r2117.2 12 3 a0).toInt := congrArg Int32.toInt (u2654 12 3 a0 (by decide))
              have f2789 := cb_12_3 i2119 k_a0
              have f2790 : (q_I r2117.2 12 3 a0).toInt = (q_I d2111 12 3 a0).toInt := congrArg Int32.toInt (u2123 12 3 a0 (by decide))
              have f2791 := ti_b r2771.1
              have f2793 := cb_12_5 i2773 k_a0
              have f2794 : (q_I r2771.2 12 5 a0).toInt = (q_I r2619 12 5 a0).toInt := congrArg Int32.toInt (u2777 12 5 a0 (by decide))
              have ns2792 : NS ad a0 r2619 r2771.2 := ⟨u2780 112 (by decide) (by decide) (by decide), u2780 113 (by decide) (by decide) (by decide), u2780 114 (by decide) (by decide) (by decide), u2780 115 (by decide) (by decide) (by decide), u2780 116 (by decide) (by decide) (by decide), u2777 12 24 _ (by decide), u2777 12 25 _ (by decide), u2777 12 26 _ (by decide), u2777 12 27 _ (by decide), fun z => by omega⟩
              refine ok_ite (fun h2795 => ?_) (fun h2795 => ?_)
              · have c2796 : r2771.1.toInt = (0 : Int) := o_eq h2795
                unfold J_X12_thief_106
                refine ok_bind (k_X12_result L hN (a0 := a0) (x1 := (q_I r2771.2 12 24 a0)) k_a0 i2773) (fun r2797 hr2798 => ?_)
                obtain ⟨i2799, ⟨u2801, u2802, u2803, u2804⟩, p2800⟩ := hr2798
                have u2805 := kp_t u2781 u2801
                have v2806 : q_V r2797.2 = q_V δ := (u2802).trans v2782
                have v2807 := kr_t v2783 u2804
                have f2808 := ti_b r2797.1
                have f2809 := ti_b r2797.1
                have f2811 := cb_12_5 i2799 k_a0
                have f2812 : (q_I r2797.2 12 5 a0).toInt = (q_I r2771.2 12 5 a0).toInt := congrArg Int32.toInt (u2801 12 5 a0 (by decide))
                have ns2810 : NS ad a0 r2771.2 r2797.2 := ⟨u2804 112 (by decide) (by decide) (by decide), u2804 113 (by decide) (by decide) (by decide), u2804 114 (by decide) (by decide) (by decide), u2804 115 (by decide) (by decide) (by decide), u2804 116 (by decide) (by decide) (by decide), u2801 12 24 _ (by decide), u2801 12 25 _ (by decide), u2801 12 26 _ (by decide), u2801 12 27 _ (by decide), fun z => by omega⟩
                have f2813 := cb_12_24 i2799 k_a0
                have f2814 : (q_I r2797.2 12 24 a0).toInt = (q_I r2771.2 12 24 a0).toInt := congrArg Int32.toInt (u2801 12 24 a0 (by decide))
                have f2815 := cb_12_24 i2773 k_a0
                have f2816 : (q_I r2771.2 12 24 a0).toInt = (q_I r2619 12 24 a0).toInt := congrArg Int32.toInt (u2777 12 24 a0 (by decide))
                have f2817 := cb_12_24 i2647 k_a0
                have f2818 : (q_I r2619 12 24 a0).toInt = (q_I r2117.2 12 24 a0).toInt := congrArg Int32.toInt (u2654 12 24 a0 (by decide))
                refine ok_ite (fun h2819 => ?_) (fun h2819 => ?_)
                · have c2820 : r2797.1.toInt = (q_I r2797.2 12 24 a0).toInt := o_eq h2819
                  obtain ⟨b2821, o2822, k2823, n2824⟩ := gO_12_28 L k_a0
                  obtain rfl := gS_12_28 L k_a0 o2822
                  refine ok_at o2822 ?_
                  have t2825 := ti_tn (q_I r2797.2 12 24 a0)
                  refine ok_gd (fun hc2826 => ?_) ?_
                  · rcases hc2826 with hc2826 | hc2826
                    · have c2827 : (q_I r2797.2 12 24 a0).toInt < (0 : Int) := o_lt hc2826
                      omega
                    · omega
                  have f2831 := cb_12_25 i2799 k_a0
                  have f2832 : (q_I r2797.2 12 25 a0).toInt = (q_I r2771.2 12 25 a0).toInt := congrArg Int32.toInt (u2801 12 25 a0 (by decide))
                  have f2833 := cb_12_25 i2773 k_a0
                  have f2834 : (q_I r2771.2 12 25 a0).toInt = (q_I r2619 12 25 a0).toInt := congrArg Int32.toInt (u2777 12 25 a0 (by decide))
                  have f2835 := cb_12_25 i2647 k_a0
                  refine ok_bdv (fun d2828 e2829 => ?_)
                  have i2830 : RI ad h.1 δ0 d2828 := by rw [e2829]; exact cr_112 L i2799 (show 0 ≤ (q_I r2797.2 12 25 a0).toInt by omega) (show (q_I r2797.2 12 25 a0).toInt ≤ 60 by omega)
                  have u2836 := kp_N u2805 (show q_I d2828 = q_I r2797.2 by rw [e2829]; rfl)
                  have v2837 : q_V d2828 = q_V δ := ((show q_V d2828 = q_V r2797.2 by rw [e2829]; rfl)).trans v2806
                  have v2838 := kr_s L (by decide) v2807 e2829
                  have f2842 := cb_12_24 i2830 k_a0
                  have f2843 : (q_I d2828 12 24 a0).toInt = (q_I r2797.2 12 24 a0).toInt := congrArg Int32.toInt (by rw [e2829]; rfl)
                  first | (have q2845 := te_addc (c := 1) (n := 1) rfl (q_I d2828 12 24 a0) (by omega) (by omega); obtain ⟨f2846, f2847, f2848⟩ := q2845) | (obtain ⟨q2845, f2846, f2847, f2848⟩ := ti_addc (c := 1) (n := 1) rfl (q_I d2828 12 24 a0))
                  refine ok_bdv (fun d2839 e2840 => ?_)
                  have i2841 : RI ad h.1 δ0 d2839 := by rw [e2840]; exact cs_12_24 L i2830 k_a0 (show 0 ≤ ((q_I d2828 12 24 a0) + (1 : Int32)).toInt by omega) (show ((q_I d2828 12 24 a0) + (1 : Int32)).toInt ≤ 4 by omega)
                  have u2849 := kp_I u2836 e2840
                  have v2850 : q_V d2839 = q_V δ := ((show q_V d2839 = q_V d2828 by rw [e2840]; rfl)).trans v2837
                  have v2851 := kr_N v2838 (show q_R d2839 = q_R d2828 by rw [e2840]; rfl)
                  unfold J_X12_thief_146
                  have ss2852 : NS ad a0 δ d1 := NS.t NS.r (NS.w e2 (by decide))
                  have ss2853 : NS0 ad a0 δ r2035.2 := NS0.t (NS.z ss2852) (NS.z ns2052)
                  have ss2854 : NS0 ad a0 δ r2065 := NS0.t ss2853 ns2085
                  have ns2856 : NS ad a0 d2111 r2117.2 := NS.t NS.r ns2146
                  have ns2857 : NS ad a0 r2619 r2771.2 := NS.t NS.r ns2792
                  have ns2858 : NS ad a0 r2619 r2797.2 := NS.t ns2857 ns2810
                  have f2859 := cb_12_26 i2799 k_a0
                  have f2860 : (q_I r2797.2 12 26 a0).toInt = (q_I r2771.2 12 26 a0).toInt := congrArg Int32.toInt (u2801 12 26 a0 (by decide))
                  have f2861 := cb_12_26 i2773 k_a0
                  have f2862 : (q_I r2771.2 12 26 a0).toInt = (q_I r2619 12 26 a0).toInt := congrArg Int32.toInt (u2777 12 26 a0 (by decide))
                  have ss2855 : TK ad a0 δ d2839 := TK.good L ss2854 e2100 e2106 e2112 ns2856 p2653 (u2656 112 (by decide) (by decide) (by decide)) ns2858 (show (0 : Int) = 0 by omega) (show (0 : Int) = 0 by omega) (show (0 : Int) = 0 by omega) (by omega) e2829 e2840 (show (((q_I r2797.2 12 24 a0).toNatClampNeg : Nat) : Int) = (q_I δ 12 24 a0).toInt by omega) (show (q_I r2797.2 12 25 a0).toInt = (q_I r2797.2 12 25 a0).toInt by omega) (show ((q_I d2828 12 24 a0) + (1 : Int32)).toInt = (q_I δ 12 24 a0).toInt + 1 by omega) (show (q_I r2797.2 12 5 a0).toInt = -1 by omega) (show (q_I r2797.2 12 26 a0).toInt ≤ 500 by omega)
                  have f2863 := cb_12_2 i2841 k_a0
                  have f2864 : (q_I d2839 12 2 a0).toInt = (q_I d2828 12 2 a0).toInt := congrArg Int32.toInt (by rw [e2840]; exact rI_o (by decide))
                  have f2865 := cb_12_2 i2830 k_a0
                  have f2866 : (q_I d2828 12 2 a0).toInt = (q_I r2797.2 12 2 a0).toInt := congrArg Int32.toInt (by rw [e2829]; rfl)
                  have f2867 := cb_12_2 i2799 k_a0
                  have f2868 : (q_I r2797.2 12 2 a0).toInt = (q_I r2771.2 12 2 a0).toInt := congrArg Int32.toInt (u2801 12 2 a0 (by decide))
                  have f2869 := cb_12_2 i2773 k_a0
                  have f2870 : (q_I r2771.2 12 2 a0).toInt = (q_I r2619 12 2 a0).toInt := congrArg Int32.toInt (u2777 12 2 a0 (by decide))
                  have f2871 := cb_12_2 i2647 k_a0
                  have f2872 : (q_I r2619 12 2 a0).toInt = (q_I r2117.2 12 2 a0).toInt := congrArg Int32.toInt (u2654 12 2 a0 (by decide))
                  have f2873 := cb_12_2 i2119 k_a0
                  have f2874 : (q_I r2117.2 12 2 a0).toInt = (q_I d2111 12 2 a0).toInt := congrArg Int32.toInt (u2123 12 2 a0 (by decide))
                  have f2875 := cb_12_2 i2113 k_a0
                  have f2876 : (q_I d2111 12 2 a0).toInt = (q_I d2105 12 2 a0).toInt := congrArg Int32.toInt (by rw [e2112]; exact rI_o (by decide))
                  have f2877 := cb_12_2 i2107 k_a0
                  have f2878 : (q_I d2105 12 2 a0).toInt = (q_I d2099 12 2 a0).toInt := congrArg Int32.toInt (by rw [e2106]; exact rI_o (by decide))
                  have f2879 := cb_12_2 i2101 k_a0
                  have f2880 : (q_I d2099 12 2 a0).toInt = (q_I r2065 12 2 a0).toInt := congrArg Int32.toInt (by rw [e2100]; exact rI_o (by decide))
                  exact ok_some (show RI ad h.1 δ0 d2839 ∧ (kp [(12, 0), (12, 2), (12, 3), (12, 4), (12, 5), (12, 6), (12, 7), (12, 8), (12, 24), (12, 25), (12, 26), (12, 27)] δ d2839 ∧ q_V d2839 = q_V δ ∧ kr ad [100, 112, 113, 114, 115, 116, 117] δ d2839) ∧ TK ad a0 δ d2839 ∧ (0 ≤ (x1).toInt ∧ (x1).toInt ≤ (q_I δ 12 2 a0).toInt → (q_I d2839 12 2 a0).toInt = 0) ∧ ((x1).toInt < 0 ∨ (q_I δ 12 2 a0).toInt < (x1).toInt → (q_I d2839 12 2 a0).toInt = (q_I δ 12 2 a0).toInt) from ⟨i2841, ⟨kp_w (by decide) u2849, v2850, kr_w (by decide) v2851⟩, ss2855, by first | assumption | omega, by first | assumption | omega⟩)
                · have c2881 : r2797.1.toInt ≠ (q_I r2797.2 12 24 a0).toInt := o_ne h2819
                  unfold J_X12_thief_146
                  have ss2882 : NS ad a0 δ d1 := NS.t NS.r (NS.w e2 (by decide))
                  have ss2883 : NS0 ad a0 δ r2035.2 := NS0.t (NS.z ss2882) (NS.z ns2052)
                  have ss2884 : NS0 ad a0 δ r2065 := NS0.t ss2883 ns2085
                  have ns2886 : NS ad a0 d2111 r2117.2 := NS.t NS.r ns2146
                  have ns2887 : NS ad a0 r2619 r2771.2 := NS.t NS.r ns2792
                  have ns2888 : NS ad a0 r2619 r2797.2 := NS.t ns2887 ns2810
                  have ss2885 : TK ad a0 δ r2797.2 := TK.bad L ss2884 e2100 e2106 e2112 ns2886 p2653 (u2656 112 (by decide) (by decide) (by decide)) ns2888 (show (0 : Int) = 0 by omega) (show (0 : Int) = 0 by omega) (show (0 : Int) = 0 by omega) (by omega)
                  have f2889 := cb_12_2 i2799 k_a0
                  have f2890 : (q_I r2797.2 12 2 a0).toInt = (q_I r2771.2 12 2 a0).toInt := congrArg Int32.toInt (u2801 12 2 a0 (by decide))
                  have f2891 := cb_12_2 i2773 k_a0
                  have f2892 : (q_I r2771.2 12 2 a0).toInt = (q_I r2619 12 2 a0).toInt := congrArg Int32.toInt (u2777 12 2 a0 (by decide))
                  have f2893 := cb_12_2 i2647 k_a0
                  have f2894 : (q_I r2619 12 2 a0).toInt = (q_I r2117.2 12 2 a0).toInt := congrArg Int32.toInt (u2654 12 2 a0 (by decide))
                  have f2895 := cb_12_2 i2119 k_a0
                  have f2896 : (q_I r2117.2 12 2 a0).toInt = (q_I d2111 12 2 a0).toInt := congrArg Int32.toInt (u2123 12 2 a0 (by decide))
                  have f2897 := cb_12_2 i2113 k_a0
                  have f2898 : (q_I d2111 12 2 a0).toInt = (q_I d2105 12 2 a0).toInt := congrArg Int32.toInt (by rw [e2112]; exact rI_o (by decide))
                  have f2899 := cb_12_2 i2107 k_a0
                  have f2900 : (q_I d2105 12 2 a0).toInt = (q_I d2099 12 2 a0).toInt := congrArg Int32.toInt (by rw [e2106]; exact rI_o (by decide))
                  have f2901 := cb_12_2 i2101 k_a0
                  have f2902 : (q_I d2099 12 2 a0).toInt = (q_I r2065 12 2 a0).toInt := congrArg Int32.toInt (by rw [e2100]; exact rI_o (by decide))
                  exact ok_some (show RI ad h.1 δ0 r2797.2 ∧ (kp [(12, 0), (12, 2), (12, 3), (12, 4), (12, 5), (12, 6), (12, 7), (12, 8), (12, 24), (12, 25), (12, 26), (12, 27)] δ r2797.2 ∧ q_V r2797.2 = q_V δ ∧ kr ad [100, 112, 113, 114, 115, 116, 117] δ r2797.2) ∧ TK ad a0 δ r2797.2 ∧ (0 ≤ (x1).toInt ∧ (x1).toInt ≤ (q_I δ 12 2 a0).toInt → (q_I r2797.2 12 2 a0).toInt = 0) ∧ ((x1).toInt < 0 ∨ (q_I δ 12 2 a0).toInt < (x1).toInt → (q_I r2797.2 12 2 a0).toInt = (q_I δ 12 2 a0).toInt) from ⟨i2799, ⟨kp_w (by decide) u2805, v2806, kr_w (by decide) v2807⟩, ss2885, by first | assumption | omega, by first | assumption | omega⟩)
              · have c2903 : r2771.1.toInt ≠ (0 : Int) := o_ne h2795
                refine ok_bind (k_X12_wrong L hN (a0 := a0) (x1 := (1 : Int32)) (x2 := (q_I r2771.2 12 4 a0)) k_a0 (show 0 ≤ ((q_I r2771.2 12 4 a0)).toInt by first | assumption | omega) (show ((q_I r2771.2 12 4 a0)).toInt ≤ 500 by first | assumption | omega) (show 0 ≤ (1 : Int) by first | assumption | omega) (show (1 : Int) ≤ 4 by first | assumption | omega) i2773) (fun r2904 hr2905 => ?_)
                obtain ⟨i2906, ⟨u2909, u2910, u2911, u2912⟩, p2907, p2908⟩ := hr2905
                have u2913 := kp_t u2781 u2909
                have v2914 : q_V r2904 = q_V δ := (u2910).trans v2782
                have v2915 := kr_t v2783 u2912
                have f2916 := cb_12_5 i2906 k_a0
                have ns2917 : NS ad a0 r2771.2 r2904 := ⟨u2912 112 (by decide) (by decide) (by decide), u2912 113 (by decide) (by decide) (by decide), u2912 114 (by decide) (by decide) (by decide), u2912 115 (by decide) (by decide) (by decide), u2912 116 (by decide) (by decide) (by decide), u2909 12 24 _ (by decide), u2909 12 25 _ (by decide), u2909 12 26 _ (by decide), u2909 12 27 _ (by decide), fun z => by omega⟩
                unfold J_X12_thief_106
                refine ok_bind (k_X12_result L hN (a0 := a0) (x1 := (q_I r2904 12 24 a0)) k_a0 i2906) (fun r2918 hr2919 => ?_)
                obtain ⟨i2920, ⟨u2922, u2923, u2924, u2925⟩, p2921⟩ := hr2919
                have u2926 := kp_t u2913 u2922
                have v2927 : q_V r2918.2 = q_V δ := (u2923).trans v2914
                have v2928 := kr_t v2915 u2925
                have f2929 := ti_b r2918.1
                have f2930 := ti_b r2918.1
                have f2932 := cb_12_5 i2920 k_a0
                have f2933 : (q_I r2918.2 12 5 a0).toInt = (q_I r2904 12 5 a0).toInt := congrArg Int32.toInt (u2922 12 5 a0 (by decide))
                have ns2931 : NS ad a0 r2904 r2918.2 := ⟨u2925 112 (by decide) (by decide) (by decide), u2925 113 (by decide) (by decide) (by decide), u2925 114 (by decide) (by decide) (by decide), u2925 115 (by decide) (by decide) (by decide), u2925 116 (by decide) (by decide) (by decide), u2922 12 24 _ (by decide), u2922 12 25 _ (by decide), u2922 12 26 _ (by decide), u2922 12 27 _ (by decide), fun z => by omega⟩
                have f2934 := cb_12_24 i2920 k_a0
                have f2935 : (q_I r2918.2 12 24 a0).toInt = (q_I r2904 12 24 a0).toInt := congrArg Int32.toInt (u2922 12 24 a0 (by decide))
                have f2936 := cb_12_24 i2906 k_a0
                have f2937 : (q_I r2904 12 24 a0).toInt = (q_I r2771.2 12 24 a0).toInt := congrArg Int32.toInt (u2909 12 24 a0 (by decide))
                have f2938 := cb_12_24 i2773 k_a0
                have f2939 : (q_I r2771.2 12 24 a0).toInt = (q_I r2619 12 24 a0).toInt := congrArg Int32.toInt (u2777 12 24 a0 (by decide))
                have f2940 := cb_12_24 i2647 k_a0
                have f2941 : (q_I r2619 12 24 a0).toInt = (q_I r2117.2 12 24 a0).toInt := congrArg Int32.toInt (u2654 12 24 a0 (by decide))
                refine ok_ite (fun h2942 => ?_) (fun h2942 => ?_)
                · have c2943 : r2918.1.toInt = (q_I r2918.2 12 24 a0).toInt := o_eq h2942
                  obtain ⟨b2944, o2945, k2946, n2947⟩ := gO_12_28 L k_a0
                  obtain rfl := gS_12_28 L k_a0 o2945
                  refine ok_at o2945 ?_
                  have t2948 := ti_tn (q_I r2918.2 12 24 a0)
                  refine ok_gd (fun hc2949 => ?_) ?_
                  · rcases hc2949 with hc2949 | hc2949
                    · have c2950 : (q_I r2918.2 12 24 a0).toInt < (0 : Int) := o_lt hc2949
                      omega
                    · omega
                  have f2954 := cb_12_25 i2920 k_a0
                  have f2955 : (q_I r2918.2 12 25 a0).toInt = (q_I r2904 12 25 a0).toInt := congrArg Int32.toInt (u2922 12 25 a0 (by decide))
                  have f2956 := cb_12_25 i2906 k_a0
                  have f2957 : (q_I r2904 12 25 a0).toInt = (q_I r2771.2 12 25 a0).toInt := congrArg Int32.toInt (u2909 12 25 a0 (by decide))
                  have f2958 := cb_12_25 i2773 k_a0
                  have f2959 : (q_I r2771.2 12 25 a0).toInt = (q_I r2619 12 25 a0).toInt := congrArg Int32.toInt (u2777 12 25 a0 (by decide))
                  have f2960 := cb_12_25 i2647 k_a0
                  refine ok_bdv (fun d2951 e2952 => ?_)
                  have i2953 : RI ad h.1 δ0 d2951 := by rw [e2952]; exact cr_112 L i2920 (show 0 ≤ (q_I r2918.2 12 25 a0).toInt by omega) (show (q_I r2918.2 12 25 a0).toInt ≤ 60 by omega)
                  have u2961 := kp_N u2926 (show q_I d2951 = q_I r2918.2 by rw [e2952]; rfl)
                  have v2962 : q_V d2951 = q_V δ := ((show q_V d2951 = q_V r2918.2 by rw [e2952]; rfl)).trans v2927
                  have v2963 := kr_s L (by decide) v2928 e2952
                  have f2967 := cb_12_24 i2953 k_a0
                  have f2968 : (q_I d2951 12 24 a0).toInt = (q_I r2918.2 12 24 a0).toInt := congrArg Int32.toInt (by rw [e2952]; rfl)
                  first | (have q2970 := te_addc (c := 1) (n := 1) rfl (q_I d2951 12 24 a0) (by omega) (by omega); obtain ⟨f2971, f2972, f2973⟩ := q2970) | (obtain ⟨q2970, f2971, f2972, f2973⟩ := ti_addc (c := 1) (n := 1) rfl (q_I d2951 12 24 a0))
                  refine ok_bdv (fun d2964 e2965 => ?_)
                  have i2966 : RI ad h.1 δ0 d2964 := by rw [e2965]; exact cs_12_24 L i2953 k_a0 (show 0 ≤ ((q_I d2951 12 24 a0) + (1 : Int32)).toInt by omega) (show ((q_I d2951 12 24 a0) + (1 : Int32)).toInt ≤ 4 by omega)
                  have u2974 := kp_I u2961 e2965
                  have v2975 : q_V d2964 = q_V δ := ((show q_V d2964 = q_V d2951 by rw [e2965]; rfl)).trans v2962
                  have v2976 := kr_N v2963 (show q_R d2964 = q_R d2951 by rw [e2965]; rfl)
                  unfold J_X12_thief_146
                  have ss2977 : NS ad a0 δ d1 := NS.t NS.r (NS.w e2 (by decide))
                  have ss2978 : NS0 ad a0 δ r2035.2 := NS0.t (NS.z ss2977) (NS.z ns2052)
                  have ss2979 : NS0 ad a0 δ r2065 := NS0.t ss2978 ns2085
                  have ns2981 : NS ad a0 d2111 r2117.2 := NS.t NS.r ns2146
                  have ns2982 : NS ad a0 r2619 r2771.2 := NS.t NS.r ns2792
                  have ns2983 : NS ad a0 r2619 r2904 := NS.t ns2982 ns2917
                  have ns2984 : NS ad a0 r2619 r2918.2 := NS.t ns2983 ns2931
                  have f2985 := cb_12_26 i2920 k_a0
                  have f2986 : (q_I r2918.2 12 26 a0).toInt = (q_I r2904 12 26 a0).toInt := congrArg Int32.toInt (u2922 12 26 a0 (by decide))
                  have f2987 := cb_12_26 i2906 k_a0
                  have f2988 : (q_I r2904 12 26 a0).toInt = (q_I r2771.2 12 26 a0).toInt := congrArg Int32.toInt (u2909 12 26 a0 (by decide))
                  have f2989 := cb_12_26 i2773 k_a0
                  have f2990 : (q_I r2771.2 12 26 a0).toInt = (q_I r2619 12 26 a0).toInt := congrArg Int32.toInt (u2777 12 26 a0 (by decide))
                  have ss2980 : TK ad a0 δ d2964 := TK.good L ss2979 e2100 e2106 e2112 ns2981 p2653 (u2656 112 (by decide) (by decide) (by decide)) ns2984 (show (0 : Int) = 0 by omega) (show (0 : Int) = 0 by omega) (show (0 : Int) = 0 by omega) (by omega) e2952 e2965 (show (((q_I r2918.2 12 24 a0).toNatClampNeg : Nat) : Int) = (q_I δ 12 24 a0).toInt by omega) (show (q_I r2918.2 12 25 a0).toInt = (q_I r2918.2 12 25 a0).toInt by omega) (show ((q_I d2951 12 24 a0) + (1 : Int32)).toInt = (q_I δ 12 24 a0).toInt + 1 by omega) (show (q_I r2918.2 12 5 a0).toInt = -1 by omega) (show (q_I r2918.2 12 26 a0).toInt ≤ 500 by omega)
                  have f2991 := cb_12_2 i2966 k_a0
                  have f2992 : (q_I d2964 12 2 a0).toInt = (q_I d2951 12 2 a0).toInt := congrArg Int32.toInt (by rw [e2965]; exact rI_o (by decide))
                  have f2993 := cb_12_2 i2953 k_a0
                  have f2994 : (q_I d2951 12 2 a0).toInt = (q_I r2918.2 12 2 a0).toInt := congrArg Int32.toInt (by rw [e2952]; rfl)
                  have f2995 := cb_12_2 i2920 k_a0
                  have f2996 : (q_I r2918.2 12 2 a0).toInt = (q_I r2904 12 2 a0).toInt := congrArg Int32.toInt (u2922 12 2 a0 (by decide))
                  have f2997 := cb_12_2 i2906 k_a0
                  have f2998 : (q_I r2904 12 2 a0).toInt = (q_I r2771.2 12 2 a0).toInt := congrArg Int32.toInt (u2909 12 2 a0 (by decide))
                  have f2999 := cb_12_2 i2773 k_a0
                  have f3000 : (q_I r2771.2 12 2 a0).toInt = (q_I r2619 12 2 a0).toInt := congrArg Int32.toInt (u2777 12 2 a0 (by decide))
                  have f3001 := cb_12_2 i2647 k_a0
                  have f3002 : (q_I r2619 12 2 a0).toInt = (q_I r2117.2 12 2 a0).toInt := congrArg Int32.toInt (u2654 12 2 a0 (by decide))
                  have f3003 := cb_12_2 i2119 k_a0
                  have f3004 : (q_I r2117.2 12 2 a0).toInt = (q_I d2111 12 2 a0).toInt := congrArg Int32.toInt (u2123 12 2 a0 (by decide))
                  have f3005 := cb_12_2 i2113 k_a0
                  have f3006 : (q_I d2111 12 2 a0).toInt = (q_I d2105 12 2 a0).toInt := congrArg Int32.toInt (by rw [e2112]; exact rI_o (by decide))
                  have f3007 := cb_12_2 i2107 k_a0
                  have f3008 : (q_I d2105 12 2 a0).toInt = (q_I d2099 12 2 a0).toInt := congrArg Int32.toInt (by rw [e2106]; exact rI_o (by decide))
                  have f3009 := cb_12_2 i2101 k_a0
                  have f3010 : (q_I d2099 12 2 a0).toInt = (q_I r2065 12 2 a0).toInt := congrArg Int32.toInt (by rw [e2100]; exact rI_o (by decide))
                  exact ok_some (show RI ad h.1 δ0 d2964 ∧ (kp [(12, 0), (12, 2), (12, 3), (12, 4), (12, 5), (12, 6), (12, 7), (12, 8), (12, 24), (12, 25), (12, 26), (12, 27)] δ d2964 ∧ q_V d2964 = q_V δ ∧ kr ad [100, 112, 113, 114, 115, 116, 117] δ d2964) ∧ TK ad a0 δ d2964 ∧ (0 ≤ (x1).toInt ∧ (x1).toInt ≤ (q_I δ 12 2 a0).toInt → (q_I d2964 12 2 a0).toInt = 0) ∧ ((x1).toInt < 0 ∨ (q_I δ 12 2 a0).toInt < (x1).toInt → (q_I d2964 12 2 a0).toInt = (q_I δ 12 2 a0).toInt) from ⟨i2966, ⟨kp_w (by decide) u2974, v2975, kr_w (by decide) v2976⟩, ss2980, by first | assumption | omega, by first | assumption | omega⟩)
                · have c3011 : r2918.1.toInt ≠ (q_I r2918.2 12 24 a0).toInt := o_ne h2942
                  unfold J_X12_thief_146
                  have ss3012 : NS ad a0 δ d1 := NS.t NS.r (NS.w e2 (by decide))
                  have ss3013 : NS0 ad a0 δ r2035.2 := NS0.t (NS.z ss3012) (NS.z ns2052)
                  have ss3014 : NS0 ad a0 δ r2065 := NS0.t ss3013 ns2085
                  have ns3016 : NS ad a0 d2111 r2117.2 := NS.t NS.r ns2146
                  have ns3017 : NS ad a0 r2619 r2771.2 := NS.t NS.r ns2792
                  have ns3018 : NS ad a0 r2619 r2904 := NS.t ns3017 ns2917
                  have ns3019 : NS ad a0 r2619 r2918.2 := NS.t ns3018 ns2931
                  have ss3015 : TK ad a0 δ r2918.2 := TK.bad L ss3014 e2100 e2106 e2112 ns3016 p2653 (u2656 112 (by decide) (by decide) (by decide)) ns3019 (show (0 : Int) = 0 by omega) (show (0 : Int) = 0 by omega) (show (0 : Int) = 0 by omega) (by omega)
                  have f3020 := cb_12_2 i2920 k_a0
                  have f3021 : (q_I r2918.2 12 2 a0).toInt = (q_I r2904 12 2 a0).toInt := congrArg Int32.toInt (u2922 12 2 a0 (by decide))
                  have f3022 := cb_12_2 i2906 k_a0
                  have f3023 : (q_I r2904 12 2 a0).toInt = (q_I r2771.2 12 2 a0).toInt := congrArg Int32.toInt (u2909 12 2 a0 (by decide))
                  have f3024 := cb_12_2 i2773 k_a0
                  have f3025 : (q_I r2771.2 12 2 a0).toInt = (q_I r2619 12 2 a0).toInt := congrArg Int32.toInt (u2777 12 2 a0 (by decide))
                  have f3026 := cb_12_2 i2647 k_a0
                  have f3027 : (q_I r2619 12 2 a0).toInt = (q_I r2117.2 12 2 a0).toInt := congrArg Int32.toInt (u2654 12 2 a0 (by decide))
                  have f3028 := cb_12_2 i2119 k_a0
                  have f3029 : (q_I r2117.2 12 2 a0).toInt = (q_I d2111 12 2 a0).toInt := congrArg Int32.toInt (u2123 12 2 a0 (by decide))
                  have f3030 := cb_12_2 i2113 k_a0
                  have f3031 : (q_I d2111 12 2 a0).toInt = (q_I d2105 12 2 a0).toInt := congrArg Int32.toInt (by rw [e2112]; exact rI_o (by decide))
                  have f3032 := cb_12_2 i2107 k_a0
                  have f3033 : (q_I d2105 12 2 a0).toInt = (q_I d2099 12 2 a0).toInt := congrArg Int32.toInt (by rw [e2106]; exact rI_o (by decide))
                  have f3034 := cb_12_2 i2101 k_a0
                  have f3035 : (q_I d2099 12 2 a0).toInt = (q_I r2065 12 2 a0).toInt := congrArg Int32.toInt (by rw [e2100]; exact rI_o (by decide))
                  exact ok_some (show RI ad h.1 δ0 r2918.2 ∧ (kp [(12, 0), (12, 2), (12, 3), (12, 4), (12, 5), (12, 6), (12, 7), (12, 8), (12, 24), (12, 25), (12, 26), (12, 27)] δ r2918.2 ∧ q_V r2918.2 = q_V δ ∧ kr ad [100, 112, 113, 114, 115, 116, 117] δ r2918.2) ∧ TK ad a0 δ r2918.2 ∧ (0 ≤ (x1).toInt ∧ (x1).toInt ≤ (q_I δ 12 2 a0).toInt → (q_I r2918.2 12 2 a0).toInt = 0) ∧ ((x1).toInt < 0 ∨ (q_I δ 12 2 a0).toInt < (x1).toInt → (q_I r2918.2 12 2 a0).toInt = (q_I δ 12 2 a0).toInt) from ⟨i2920, ⟨kp_w (by decide) u2926, v2927, kr_w (by decide) v2928⟩, ss3015, by first | assumption | omega, by first | assumption | omega⟩)
