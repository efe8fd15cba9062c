/-! 79.yd.thief (by gen_safe.py) -/
set_option maxHeartbeats 4000000 in
theorem k_X12_thief {ad : List Nat} {h : hp} (L : Lay TLx ad h) {δ0 : dp} {N : Nat} (hN : 10000000 ≤ N) {a0 : Nat} {x1 : Int32} (k_a0 : q_K h.1 a0 = 12) {δ : dp} (I : RI ad h.1 δ0 δ) : ok (D_X12_thief N h.1 a0 x1 δ) (fun r => RI ad h.1 δ0 r.2 ∧ (kp [(12, 0), (12, 2), (12, 3), (12, 4), (12, 5), (12, 6), (12, 7), (12, 8), (12, 24), (12, 25), (12, 26), (12, 27)] δ r.2 ∧ q_V r.2 = q_V δ ∧ kr ad [100, 112, 113, 114, 115, 116, 117] δ r.2) ∧ TK ad a0 δ r.2 ∧ (0 ≤ (x1).toInt ∧ (x1).toInt ≤ (q_I δ 12 2 a0).toInt → (q_I r.2 12 2 a0).toInt = 0) ∧ ((x1).toInt < 0 ∨ (q_I δ 12 2 a0).toInt < (x1).toInt → (q_I r.2 12 2 a0).toInt = (q_I δ 12 2 a0).toInt)) := by
  unfold D_X12_thief
  refine ok_bdv (fun d1 e2 => ?_)
  have i3 : RI ad h.1 δ0 d1 := by rw [e2]; exact cs_12_0 L I
  have u4 := kp_I kp_r e2
  have v5 : q_V d1 = q_V δ := ((show q_V d1 = q_V δ by rw [e2]; rfl)).trans rfl
  have v6 := kr_N (kr_r (ad := ad)) (show q_R d1 = q_R δ by rw [e2]; rfl)
  have f7 := ti_b x1
  refine ok_ite (fun h8 => ?_) (fun h8 => ?_)
  · have c9 : x1.toInt < (0 : Int) := o_lt h8
    unfold J_X12_thief_22
    unfold J_X12_thief_23
    refine ok_bind (k_X12_may L hN (a0 := a0) (x1 := (0 : Int32)) (x2 := (1 : Int32)) (x3 := (2 : Int32)) k_a0 (show (1 : Int) ≠ 0 by first | with_reducible assumption | omega) (show 0 ≤ (2 : Int) by first | with_reducible assumption | omega) (show (2 : Int) ≤ 2 by first | with_reducible assumption | omega) i3) (fun r10 hr11 => ?_)
    obtain ⟨i12, ⟨u16, u17, u18⟩, p13, p14, p15⟩ := hr11
    have u19 := kp_t u4 u16
    have v20 : q_V r10.2 = q_V δ := (u17).trans v5
    have v21 := kr_t v6 u18
    have f22 := bo_l p13
    have f23 := ti_b r10.1
    replace p14 : ((r10.1).toInt = 1 → (0 : Int) ≠ 0) := p14
    have f24 := ti_b (q_I d1 12 0 a0)
    have f25 : (q_I d1 12 0 a0).toInt = (0 : Int) := congrArg Int32.toInt (show q_I d1 12 0 a0 = (0 : Int32) by rw [e2]; exact rI_s)
    replace p15 : ((q_I d1 12 0 a0).toInt = 0 → (r10.1).toInt = 0 → (0 : Int) = 0) := p15
    have f27 : (q_I r10.2 12 5 a0).toInt = (q_I δ 12 5 a0).toInt := ((show (q_I r10.2 12 5 a0).toInt = (q_I d1 12 5 a0).toInt from congrArg Int32.toInt (u16 12 5 a0 (by decide))).trans (show (q_I d1 12 5 a0).toInt = (q_I δ 12 5 a0).toInt from congrArg Int32.toInt (by rw [e2]; exact rI_o (by decide))))
    have f28 := cb_12_5 I k_a0
    have f29 : (q_I d1 12 5 a0).toInt = (q_I δ 12 5 a0).toInt := congrArg Int32.toInt (by rw [e2]; exact rI_o (by decide))
    have ns26 : NS ad a0 d1 r10.2 := ⟨u18 112 (by decide) (by decide) (by decide), u18 113 (by decide) (by decide) (by decide), u18 114 (by decide) (by decide) (by decide), u18 115 (by decide) (by decide) (by decide), u18 116 (by decide) (by decide) (by decide), u16 12 24 _ (by decide), u16 12 25 _ (by decide), u16 12 26 _ (by decide), u16 12 27 _ (by decide), fun z => by omega⟩
    refine ok_ite (fun h30 => ?_) (fun h30 => ?_)
    · have c31 : r10.1.toInt = (0 : Int) := o_eq h30
      have ss32 : NS ad a0 δ d1 := NS.t NS.r (NS.w e2 (by decide))
      have ss33 : NS0 ad a0 δ r10.2 := NS0.t (NS.z ss32) (NS.z ns26)
      have f34 := cb_12_2 I k_a0
      have f35 : (q_I r10.2 12 2 a0).toInt = (q_I δ 12 2 a0).toInt := ((show (q_I r10.2 12 2 a0).toInt = (q_I d1 12 2 a0).toInt from congrArg Int32.toInt (u16 12 2 a0 (by decide))).trans (show (q_I d1 12 2 a0).toInt = (q_I δ 12 2 a0).toInt from congrArg Int32.toInt (by rw [e2]; exact rI_o (by decide))))
      exact ok_some (show RI ad h.1 δ0 r10.2 ∧ (kp [(12, 0), (12, 2), (12, 3), (12, 4), (12, 5), (12, 6), (12, 7), (12, 8), (12, 24), (12, 25), (12, 26), (12, 27)] δ r10.2 ∧ q_V r10.2 = q_V δ ∧ kr ad [100, 112, 113, 114, 115, 116, 117] δ r10.2) ∧ TK ad a0 δ r10.2 ∧ (0 ≤ (x1).toInt ∧ (x1).toInt ≤ (q_I δ 12 2 a0).toInt → (q_I r10.2 12 2 a0).toInt = 0) ∧ ((x1).toInt < 0 ∨ (q_I δ 12 2 a0).toInt < (x1).toInt → (q_I r10.2 12 2 a0).toInt = (q_I δ 12 2 a0).toInt) from ⟨i12, ⟨kp_w (by decide) u19, v20, kr_w (by decide) v21⟩, TK.n ss33, by first | with_reducible assumption | omega, by first | with_reducible assumption | omega⟩)
    · have c36 : r10.1.toInt ≠ (0 : Int) := o_ne h30
      refine ok_bind (k_X12_begins L hN (a0 := a0) (x1 := x1) k_a0 (show 0 ≤ (x1).toInt by first | with_reducible assumption | omega) (show (x1).toInt ≤ 500 by first | with_reducible assumption | omega) i12) (fun r37 hr38 => ?_)
      obtain ⟨i39, ⟨u45, u46, u47, u48⟩, p40, p41, p42, p43, p44⟩ := hr38
      have u49 := kp_t u19 u45
      have v50 : q_V r37 = q_V δ := (u46).trans v20
      have v51 := kr_t v21 u48
      have f52 := cb_12_2 i39 k_a0
      have f53 := cb_12_4 i39 k_a0
      have f54 := cb_12_3 i39 k_a0
      have f55 := cb_12_5 i39 k_a0
      have f56 := ti_b (q_I r37 12 7 a0)
      have ns57 : NS0 ad a0 r10.2 r37 := ⟨u48 112 (by decide) (by decide) (by decide), u48 113 (by decide) (by decide) (by decide), u48 114 (by decide) (by decide) (by decide), u48 115 (by decide) (by decide) (by decide), u48 116 (by decide) (by decide) (by decide), u45 12 24 _ (by decide)⟩
      have f58 : (q_I r37 12 24 a0).toInt = (q_I δ 12 24 a0).toInt := ((show (q_I r37 12 24 a0).toInt = (q_I r10.2 12 24 a0).toInt from congrArg Int32.toInt (u45 12 24 a0 (by decide))).trans ((show (q_I r10.2 12 24 a0).toInt = (q_I d1 12 24 a0).toInt from congrArg Int32.toInt (u16 12 24 a0 (by decide))).trans (show (q_I d1 12 24 a0).toInt = (q_I δ 12 24 a0).toInt from congrArg Int32.toInt (by rw [e2]; exact rI_o (by decide)))))
      have f59 := cb_12_24 I k_a0
      refine ok_ite (fun h60 => ?_) (fun h60 => ?_)
      · have c61 : (q_I r37 12 24 a0).toInt = (4 : Int) := o_eq h60
        have ss62 : NS ad a0 δ d1 := NS.t NS.r (NS.w e2 (by decide))
        have ss63 : NS0 ad a0 δ r10.2 := NS0.t (NS.z ss62) (NS.z ns26)
        have ss64 : NS0 ad a0 δ r37 := NS0.t ss63 ns57
        have f65 := cb_12_2 I k_a0
        exact ok_some (show RI ad h.1 δ0 r37 ∧ (kp [(12, 0), (12, 2), (12, 3), (12, 4), (12, 5), (12, 6), (12, 7), (12, 8), (12, 24), (12, 25), (12, 26), (12, 27)] δ r37 ∧ q_V r37 = q_V δ ∧ kr ad [100, 112, 113, 114, 115, 116, 117] δ r37) ∧ TK ad a0 δ r37 ∧ (0 ≤ (x1).toInt ∧ (x1).toInt ≤ (q_I δ 12 2 a0).toInt → (q_I r37 12 2 a0).toInt = 0) ∧ ((x1).toInt < 0 ∨ (q_I δ 12 2 a0).toInt < (x1).toInt → (q_I r37 12 2 a0).toInt = (q_I δ 12 2 a0).toInt) from ⟨i39, ⟨kp_w (by decide) u49, v50, kr_w (by decide) v51⟩, TK.n ss64, by first | with_reducible assumption | omega, by first | with_reducible assumption | omega⟩)
      · have c66 : (q_I r37 12 24 a0).toInt ≠ (4 : Int) := o_ne h60
        refine ok_bdv (fun d67 e68 => ?_)
        have i69 : RI ad h.1 δ0 d67 := by rw [e68]; exact cs_12_25 L i39 k_a0 (show 0 ≤ (0 : Int) by omega) (show (0 : Int) ≤ 60 by omega)
        have u70 := kp_I u49 e68
        have v71 : q_V d67 = q_V δ := ((show q_V d67 = q_V r37 by rw [e68]; rfl)).trans v50
        have v72 := kr_N v51 (show q_R d67 = q_R r37 by rw [e68]; rfl)
        refine ok_bdv (fun d73 e74 => ?_)
        have i75 : RI ad h.1 δ0 d73 := by rw [e74]; exact cs_12_26 L i69 k_a0 (show 0 ≤ (0 : Int) by omega) (show (0 : Int) ≤ 500 by omega)
        have u76 := kp_I u70 e74
        have v77 : q_V d73 = q_V δ := ((show q_V d73 = q_V d67 by rw [e74]; rfl)).trans v71
        have v78 := kr_N v72 (show q_R d73 = q_R d67 by rw [e74]; rfl)
        refine ok_bdv (fun d79 e80 => ?_)
        have i81 : RI ad h.1 δ0 d79 := by rw [e80]; exact cs_12_27 L i75 k_a0 (show 0 ≤ (0 : Int) by omega) (show (0 : Int) ≤ 3 by omega)
        have u82 := kp_I u76 e80
        have v83 : q_V d79 = q_V δ := ((show q_V d79 = q_V d73 by rw [e80]; rfl)).trans v77
        have v84 := kr_N v78 (show q_R d79 = q_R d73 by rw [e80]; rfl)
        refine ok_bind (k_X12_isMore L hN (a0 := a0) k_a0 i81) (fun r85 hr86 => ?_)
        obtain ⟨i87, ⟨u91, u92, u93, u94⟩, p88, p89, p90⟩ := hr86
        have u95 := kp_t u82 u91
        have v96 : q_V r85.2 = q_V δ := (u92).trans v83
        have v97 := kr_t v84 u94
        have f98 := bo_l p88
        have f99 : (q_I d79 12 4 a0).toInt = (q_I r37 12 4 a0).toInt := ((show (q_I d79 12 4 a0).toInt = (q_I d73 12 4 a0).toInt from congrArg Int32.toInt (by rw [e80]; exact rI_o (by decide))).trans ((show (q_I d73 12 4 a0).toInt = (q_I d67 12 4 a0).toInt from congrArg Int32.toInt (by rw [e74]; exact rI_o (by decide))).trans (show (q_I d67 12 4 a0).toInt = (q_I r37 12 4 a0).toInt from congrArg Int32.toInt (by rw [e68]; exact rI_o (by decide)))))
        have f100 := cb_12_4 i87 k_a0
        have f101 := ti_b r85.1
        have f102 : (q_I d79 12 3 a0).toInt = (q_I r37 12 3 a0).toInt := ((show (q_I d79 12 3 a0).toInt = (q_I d73 12 3 a0).toInt from congrArg Int32.toInt (by rw [e80]; exact rI_o (by decide))).trans ((show (q_I d73 12 3 a0).toInt = (q_I d67 12 3 a0).toInt from congrArg Int32.toInt (by rw [e74]; exact rI_o (by decide))).trans (show (q_I d67 12 3 a0).toInt = (q_I r37 12 3 a0).toInt from congrArg Int32.toInt (by rw [e68]; exact rI_o (by decide)))))
        have f104 : (q_I r85.2 12 5 a0).toInt = (q_I r37 12 5 a0).toInt := ((show (q_I r85.2 12 5 a0).toInt = (q_I d79 12 5 a0).toInt from congrArg Int32.toInt (u91 12 5 a0 (by decide))).trans ((show (q_I d79 12 5 a0).toInt = (q_I d73 12 5 a0).toInt from congrArg Int32.toInt (by rw [e80]; exact rI_o (by decide))).trans ((show (q_I d73 12 5 a0).toInt = (q_I d67 12 5 a0).toInt from congrArg Int32.toInt (by rw [e74]; exact rI_o (by decide))).trans (show (q_I d67 12 5 a0).toInt = (q_I r37 12 5 a0).toInt from congrArg Int32.toInt (by rw [e68]; exact rI_o (by decide))))))
        have f105 : (q_I d79 12 5 a0).toInt = (q_I r37 12 5 a0).toInt := ((show (q_I d79 12 5 a0).toInt = (q_I d73 12 5 a0).toInt from congrArg Int32.toInt (by rw [e80]; exact rI_o (by decide))).trans ((show (q_I d73 12 5 a0).toInt = (q_I d67 12 5 a0).toInt from congrArg Int32.toInt (by rw [e74]; exact rI_o (by decide))).trans (show (q_I d67 12 5 a0).toInt = (q_I r37 12 5 a0).toInt from congrArg Int32.toInt (by rw [e68]; exact rI_o (by decide)))))
        have ns103 : NS ad a0 d79 r85.2 := ⟨u94 112 (by decide) (by decide) (by decide), u94 113 (by decide) (by decide) (by decide), u94 114 (by decide) (by decide) (by decide), u94 115 (by decide) (by decide) (by decide), u94 116 (by decide) (by decide) (by decide), u91 12 24 _ (by decide), u91 12 25 _ (by decide), u91 12 26 _ (by decide), u91 12 27 _ (by decide), fun z => by omega⟩
        refine ok_ite (fun h106 => ?_) (fun h106 => ?_)
        · have c107 : r85.1.toInt = (0 : Int) := o_eq h106
          have f110 : (q_I r85.2 12 3 a0).toInt = (q_I d79 12 3 a0).toInt := congrArg Int32.toInt (u91 12 3 a0 (by decide))
          refine ok_bind (k_X12_wrong L hN (a0 := a0) (x1 := (1 : Int32)) (x2 := (q_I r85.2 12 3 a0)) k_a0 (show 0 ≤ ((q_I r85.2 12 3 a0)).toInt by first | with_reducible assumption | omega) (show ((q_I r85.2 12 3 a0)).toInt ≤ 500 by first | with_reducible assumption | omega) (show 0 ≤ (1 : Int) by first | with_reducible assumption | omega) (show (1 : Int) ≤ 4 by first | with_reducible assumption | omega) i87) (fun r108 hr109 => ?_)
          obtain ⟨i111, ⟨u114, u115, u116, u117⟩, p112, p113⟩ := hr109
          have u118 := kp_t u95 u114
          have v119 : q_V r108 = q_V δ := (u115).trans v96
          have v120 := kr_t v97 u117
          have f121 := cb_12_5 i111 k_a0
          have ns122 : NS ad a0 r85.2 r108 := ⟨u117 112 (by decide) (by decide) (by decide), u117 113 (by decide) (by decide) (by decide), u117 114 (by decide) (by decide) (by decide), u117 115 (by decide) (by decide) (by decide), u117 116 (by decide) (by decide) (by decide), u114 12 24 _ (by decide), u114 12 25 _ (by decide), u114 12 26 _ (by decide), u114 12 27 _ (by decide), fun z => by omega⟩
          unfold J_X12_thief_79
          have f125 : (q_I r108 12 24 a0).toInt = (q_I r37 12 24 a0).toInt := ((show (q_I r108 12 24 a0).toInt = (q_I r85.2 12 24 a0).toInt from congrArg Int32.toInt (u114 12 24 a0 (by decide))).trans ((show (q_I r85.2 12 24 a0).toInt = (q_I d79 12 24 a0).toInt from congrArg Int32.toInt (u91 12 24 a0 (by decide))).trans ((show (q_I d79 12 24 a0).toInt = (q_I d73 12 24 a0).toInt from congrArg Int32.toInt (by rw [e80]; exact rI_o (by decide))).trans ((show (q_I d73 12 24 a0).toInt = (q_I d67 12 24 a0).toInt from congrArg Int32.toInt (by rw [e74]; exact rI_o (by decide))).trans (show (q_I d67 12 24 a0).toInt = (q_I r37 12 24 a0).toInt from congrArg Int32.toInt (by rw [e68]; exact rI_o (by decide)))))))
          have f126 : (q_I r108 12 26 a0).toInt = (q_I d73 12 26 a0).toInt := ((show (q_I r108 12 26 a0).toInt = (q_I r85.2 12 26 a0).toInt from congrArg Int32.toInt (u114 12 26 a0 (by decide))).trans ((show (q_I r85.2 12 26 a0).toInt = (q_I d79 12 26 a0).toInt from congrArg Int32.toInt (u91 12 26 a0 (by decide))).trans (show (q_I d79 12 26 a0).toInt = (q_I d73 12 26 a0).toInt from congrArg Int32.toInt (by rw [e80]; exact rI_o (by decide)))))
          have f127 := cb_12_26 i75 k_a0
          have f128 : (q_I d73 12 26 a0).toInt = (0 : Int) := congrArg Int32.toInt (show q_I d73 12 26 a0 = (0 : Int32) by rw [e74]; exact rI_s)
          have f129 : (q_I r108 12 4 a0).toInt = (q_I r85.2 12 4 a0).toInt := congrArg Int32.toInt (u114 12 4 a0 (by decide))
          have f130 : (q_I r108 12 7 a0).toInt = (q_I r37 12 7 a0).toInt := ((show (q_I r108 12 7 a0).toInt = (q_I r85.2 12 7 a0).toInt from congrArg Int32.toInt (u114 12 7 a0 (by decide))).trans ((show (q_I r85.2 12 7 a0).toInt = (q_I d79 12 7 a0).toInt from congrArg Int32.toInt (u91 12 7 a0 (by decide))).trans ((show (q_I d79 12 7 a0).toInt = (q_I d73 12 7 a0).toInt from congrArg Int32.toInt (by rw [e80]; exact rI_o (by decide))).trans ((show (q_I d73 12 7 a0).toInt = (q_I d67 12 7 a0).toInt from congrArg Int32.toInt (by rw [e74]; exact rI_o (by decide))).trans (show (q_I d67 12 7 a0).toInt = (q_I r37 12 7 a0).toInt from congrArg Int32.toInt (by rw [e68]; exact rI_o (by decide)))))))
          have f131 : (q_I r108 12 27 a0).toInt = (q_I d79 12 27 a0).toInt := ((show (q_I r108 12 27 a0).toInt = (q_I r85.2 12 27 a0).toInt from congrArg Int32.toInt (u114 12 27 a0 (by decide))).trans (show (q_I r85.2 12 27 a0).toInt = (q_I d79 12 27 a0).toInt from congrArg Int32.toInt (u91 12 27 a0 (by decide))))
          have f132 := cb_12_27 i81 k_a0
          have f133 : (q_I d79 12 27 a0).toInt = (0 : Int) := congrArg Int32.toInt (show q_I d79 12 27 a0 = (0 : Int32) by rw [e80]; exact rI_s)
          refine ok_bind (k_X12_readSteps L hN (a0 := a0) k_a0 (show (q_I r108 12 24 a0).toInt ≤ 3 by first | with_reducible assumption | omega) (show (q_I r108 12 26 a0).toInt ≤ (q_I r108 12 4 a0).toInt by first | with_reducible assumption | omega) (show (q_I r108 12 7 a0).toInt = 0 by first | with_reducible assumption | omega) (show 4 - (q_I r108 12 27 a0).toInt < 20 by first | with_reducible assumption | omega) i111) (fun r123 hr124 => ?_)
          obtain ⟨i134, ⟨u141, u142, u143⟩, p135, p136, p137, p138, p139, p140⟩ := hr124
          have u144 := kp_t u118 u141
          have v145 : q_V r123 = q_V δ := (u142).trans v119
          have v146 := kr_t v120 u143
          have f147 := cb_12_4 i134 k_a0
          have f148 := cb_12_5 i134 k_a0
          have f149 := ti_b (q_I r123 12 7 a0)
          have f150 := cb_12_27 i134 k_a0
          have f151 := cb_12_26 i134 k_a0
          refine ok_bind (k_X12_fine L hN (a0 := a0) k_a0 i134) (fun r152 hr153 => ?_)
          obtain ⟨i154, p155, p156, p157⟩ := hr153
          try rw [i154]
          have f158 := bo_l p155
          have f159 := ti_b r152.1
          refine ok_ite (fun h160 => ?_) (fun h160 => ?_)
          · have c161 : r152.1.toInt = (0 : Int) := o_eq h160
            unfold J_X12_thief_106
            refine ok_bind (k_X12_result L hN (a0 := a0) (x1 := (q_I r123 12 24 a0)) k_a0 i134) (fun r162 hr163 => ?_)
            obtain ⟨i164, ⟨u166, u167, u168, u169⟩, p165⟩ := hr163
            have u170 := kp_t u144 u166
            have v171 : q_V r162.2 = q_V δ := (u167).trans v145
            have v172 := kr_t v146 u169
            have f173 := ti_b r162.1
            have f175 : (q_I r162.2 12 5 a0).toInt = (q_I r123 12 5 a0).toInt := congrArg Int32.toInt (u166 12 5 a0 (by decide))
            have ns174 : NS ad a0 r123 r162.2 := ⟨u169 112 (by decide) (by decide) (by decide), u169 113 (by decide) (by decide) (by decide), u169 114 (by decide) (by decide) (by decide), u169 115 (by decide) (by decide) (by decide), u169 116 (by decide) (by decide) (by decide), u166 12 24 _ (by decide), u166 12 25 _ (by decide), u166 12 26 _ (by decide), u166 12 27 _ (by decide), fun z => by omega⟩
            have f176 : (q_I r162.2 12 24 a0).toInt = (q_I r108 12 24 a0).toInt := ((show (q_I r162.2 12 24 a0).toInt = (q_I r123 12 24 a0).toInt from congrArg Int32.toInt (u166 12 24 a0 (by decide))).trans (show (q_I r123 12 24 a0).toInt = (q_I r108 12 24 a0).toInt from congrArg Int32.toInt (u141 12 24 a0 (by decide))))
            refine ok_ite (fun h177 => ?_) (fun h177 => ?_)
            · have c178 : r162.1.toInt = (q_I r162.2 12 24 a0).toInt := o_eq h177
              obtain ⟨b179, o180, k181, n182⟩ := gO_12_28 L k_a0
              obtain rfl := gS_12_28 L k_a0 o180
              refine ok_at o180 ?_
              have t183 := ti_tn (q_I r162.2 12 24 a0)
              refine ok_gd (fun hc184 => ?_) ?_
              · rcases hc184 with hc184 | hc184
                · have c185 : (q_I r162.2 12 24 a0).toInt < (0 : Int) := o_lt hc184
                  omega
                · omega
              have f189 : (q_I r162.2 12 25 a0).toInt = (q_I r123 12 25 a0).toInt := congrArg Int32.toInt (u166 12 25 a0 (by decide))
              have f190 := cb_12_25 i134 k_a0
              refine ok_bdv (fun d186 e187 => ?_)
              have i188 : RI ad h.1 δ0 d186 := by rw [e187]; exact cr_112 L i164 (show 0 ≤ (q_I r162.2 12 25 a0).toInt by omega) (show (q_I r162.2 12 25 a0).toInt ≤ 60 by omega)
              have u191 := kp_N u170 (show q_I d186 = q_I r162.2 by rw [e187]; rfl)
              have v192 : q_V d186 = q_V δ := ((show q_V d186 = q_V r162.2 by rw [e187]; rfl)).trans v171
              have v193 := kr_s L (by decide) v172 e187
              have f197 : (q_I d186 12 24 a0).toInt = (q_I r162.2 12 24 a0).toInt := congrArg Int32.toInt (by rw [e187]; rfl)
              first | (have q199 := te_addc (c := 1) (n := 1) rfl (q_I d186 12 24 a0) (by omega) (by omega); obtain ⟨f200, f201, f202⟩ := q199) | (obtain ⟨q199, f200, f201, f202⟩ := ti_addc (c := 1) (n := 1) rfl (q_I d186 12 24 a0))
              refine ok_bdv (fun d194 e195 => ?_)
              have i196 : RI ad h.1 δ0 d194 := by rw [e195]; exact cs_12_24 L i188 k_a0 (show 0 ≤ ((q_I d186 12 24 a0) + (1 : Int32)).toInt by omega) (show ((q_I d186 12 24 a0) + (1 : Int32)).toInt ≤ 4 by omega)
              have u203 := kp_I u191 e195
              have v204 : q_V d194 = q_V δ := ((show q_V d194 = q_V d186 by rw [e195]; rfl)).trans v192
              have v205 := kr_N v193 (show q_R d194 = q_R d186 by rw [e195]; rfl)
              unfold J_X12_thief_146
              have ss206 : NS ad a0 δ d1 := NS.t NS.r (NS.w e2 (by decide))
              have ss207 : NS0 ad a0 δ r10.2 := NS0.t (NS.z ss206) (NS.z ns26)
              have ss208 : NS0 ad a0 δ r37 := NS0.t ss207 ns57
              have ns210 : NS ad a0 d79 r85.2 := NS.t NS.r ns103
              have ns211 : NS ad a0 d79 r108 := NS.t ns210 ns122
              have ns212 : NS ad a0 r123 r162.2 := NS.t NS.r ns174
              have f213 : (q_I d73 12 24 a0).toInt = (q_I r37 12 24 a0).toInt := ((show (q_I d73 12 24 a0).toInt = (q_I d67 12 24 a0).toInt from congrArg Int32.toInt (by rw [e74]; exact rI_o (by decide))).trans (show (q_I d67 12 24 a0).toInt = (q_I r37 12 24 a0).toInt from congrArg Int32.toInt (by rw [e68]; exact rI_o (by decide))))
              have f214 : (q_I r162.2 12 26 a0).toInt = (q_I r123 12 26 a0).toInt := congrArg Int32.toInt (u166 12 26 a0 (by decide))
              have ss209 : TK ad a0 δ d194 := TK.good L ss208 e68 e74 e80 ns211 p140 (u143 112 (by decide) (by decide) (by decide)) ns212 (show (0 : Int) = 0 by omega) (show (0 : Int) = 0 by omega) (show (0 : Int) = 0 by omega) (by omega) e187 e195 (show (((q_I r162.2 12 24 a0).toNatClampNeg : Nat) : Int) = (q_I δ 12 24 a0).toInt by omega) (show (q_I r162.2 12 25 a0).toInt = (q_I r162.2 12 25 a0).toInt by omega) (show ((q_I d186 12 24 a0) + (1 : Int32)).toInt = (q_I δ 12 24 a0).toInt + 1 by omega) (show (q_I r162.2 12 5 a0).toInt = -1 by omega) (show (q_I r162.2 12 26 a0).toInt ≤ 500 by omega)
              have f215 := cb_12_2 I k_a0
              have f216 : (q_I d194 12 2 a0).toInt = (q_I r37 12 2 a0).toInt := ((show (q_I d194 12 2 a0).toInt = (q_I d186 12 2 a0).toInt from congrArg Int32.toInt (by rw [e195]; exact rI_o (by decide))).trans ((show (q_I d186 12 2 a0).toInt = (q_I r162.2 12 2 a0).toInt from congrArg Int32.toInt (by rw [e187]; rfl)).trans ((show (q_I r162.2 12 2 a0).toInt = (q_I r123 12 2 a0).toInt from congrArg Int32.toInt (u166 12 2 a0 (by decide))).trans ((show (q_I r123 12 2 a0).toInt = (q_I r108 12 2 a0).toInt from congrArg Int32.toInt (u141 12 2 a0 (by decide))).trans ((show (q_I r108 12 2 a0).toInt = (q_I r85.2 12 2 a0).toInt from congrArg Int32.toInt (u114 12 2 a0 (by decide))).trans ((show (q_I r85.2 12 2 a0).toInt = (q_I d79 12 2 a0).toInt from congrArg Int32.toInt (u91 12 2 a0 (by decide))).trans ((show (q_I d79 12 2 a0).toInt = (q_I d73 12 2 a0).toInt from congrArg Int32.toInt (by rw [e80]; exact rI_o (by decide))).trans ((show (q_I d73 12 2 a0).toInt = (q_I d67 12 2 a0).toInt from congrArg Int32.toInt (by rw [e74]; exact rI_o (by decide))).trans (show (q_I d67 12 2 a0).toInt = (q_I r37 12 2 a0).toInt from congrArg Int32.toInt (by rw [e68]; exact rI_o (by decide)))))))))))
              exact ok_some (show RI ad h.1 δ0 d194 ∧ (kp [(12, 0), (12, 2), (12, 3), (12, 4), (12, 5), (12, 6), (12, 7), (12, 8), (12, 24), (12, 25), (12, 26), (12, 27)] δ d194 ∧ q_V d194 = q_V δ ∧ kr ad [100, 112, 113, 114, 115, 116, 117] δ d194) ∧ TK ad a0 δ d194 ∧ (0 ≤ (x1).toInt ∧ (x1).toInt ≤ (q_I δ 12 2 a0).toInt → (q_I d194 12 2 a0).toInt = 0) ∧ ((x1).toInt < 0 ∨ (q_I δ 12 2 a0).toInt < (x1).toInt → (q_I d194 12 2 a0).toInt = (q_I δ 12 2 a0).toInt) from ⟨i196, ⟨kp_w (by decide) u203, v204, kr_w (by decide) v205⟩, ss209, by first | with_reducible assumption | omega, by first | with_reducible assumption | omega⟩)
            · have c217 : r162.1.toInt ≠ (q_I r162.2 12 24 a0).toInt := o_ne h177
              unfold J_X12_thief_146
              have ss218 : NS ad a0 δ d1 := NS.t NS.r (NS.w e2 (by decide))
              have ss219 : NS0 ad a0 δ r10.2 := NS0.t (NS.z ss218) (NS.z ns26)
              have ss220 : NS0 ad a0 δ r37 := NS0.t ss219 ns57
              have ns222 : NS ad a0 d79 r85.2 := NS.t NS.r ns103
              have ns223 : NS ad a0 d79 r108 := NS.t ns222 ns122
              have ns224 : NS ad a0 r123 r162.2 := NS.t NS.r ns174
              have f225 : (q_I d73 12 24 a0).toInt = (q_I r37 12 24 a0).toInt := ((show (q_I d73 12 24 a0).toInt = (q_I d67 12 24 a0).toInt from congrArg Int32.toInt (by rw [e74]; exact rI_o (by decide))).trans (show (q_I d67 12 24 a0).toInt = (q_I r37 12 24 a0).toInt from congrArg Int32.toInt (by rw [e68]; exact rI_o (by decide))))
              have ss221 : TK ad a0 δ r162.2 := TK.bad L ss220 e68 e74 e80 ns223 p140 (u143 112 (by decide) (by decide) (by decide)) ns224 (show (0 : Int) = 0 by omega) (show (0 : Int) = 0 by omega) (show (0 : Int) = 0 by omega) (by omega)
              have f226 := cb_12_2 I k_a0
              have f227 : (q_I r162.2 12 2 a0).toInt = (q_I r37 12 2 a0).toInt := ((show (q_I r162.2 12 2 a0).toInt = (q_I r123 12 2 a0).toInt from congrArg Int32.toInt (u166 12 2 a0 (by decide))).trans ((show (q_I r123 12 2 a0).toInt = (q_I r108 12 2 a0).toInt from congrArg Int32.toInt (u141 12 2 a0 (by decide))).trans ((show (q_I r108 12 2 a0).toInt = (q_I r85.2 12 2 a0).toInt from congrArg Int32.toInt (u114 12 2 a0 (by decide))).trans ((show (q_I r85.2 12 2 a0).toInt = (q_I d79 12 2 a0).toInt from congrArg Int32.toInt (u91 12 2 a0 (by decide))).trans ((show (q_I d79 12 2 a0).toInt = (q_I d73 12 2 a0).toInt from congrArg Int32.toInt (by rw [e80]; exact rI_o (by decide))).trans ((show (q_I d73 12 2 a0).toInt = (q_I d67 12 2 a0).toInt from congrArg Int32.toInt (by rw [e74]; exact rI_o (by decide))).trans (show (q_I d67 12 2 a0).toInt = (q_I r37 12 2 a0).toInt from congrArg Int32.toInt (by rw [e68]; exact rI_o (by decide)))))))))
              exact ok_some (show RI ad h.1 δ0 r162.2 ∧ (kp [(12, 0), (12, 2), (12, 3), (12, 4), (12, 5), (12, 6), (12, 7), (12, 8), (12, 24), (12, 25), (12, 26), (12, 27)] δ r162.2 ∧ q_V r162.2 = q_V δ ∧ kr ad [100, 112, 113, 114, 115, 116, 117] δ r162.2) ∧ TK ad a0 δ r162.2 ∧ (0 ≤ (x1).toInt ∧ (x1).toInt ≤ (q_I δ 12 2 a0).toInt → (q_I r162.2 12 2 a0).toInt = 0) ∧ ((x1).toInt < 0 ∨ (q_I δ 12 2 a0).toInt < (x1).toInt → (q_I r162.2 12 2 a0).toInt = (q_I δ 12 2 a0).toInt) from ⟨i164, ⟨kp_w (by decide) u170, v171, kr_w (by decide) v172⟩, ss221, by first | with_reducible assumption | omega, by first | with_reducible assumption | omega⟩)
          · have c228 : r152.1.toInt ≠ (0 : Int) := o_ne h160
            refine ok_bind (k_X12_isMore L hN (a0 := a0) k_a0 i134) (fun r229 hr230 => ?_)
            obtain ⟨i231, ⟨u235, u236, u237, u238⟩, p232, p233, p234⟩ := hr230
            have u239 := kp_t u144 u235
            have v240 : q_V r229.2 = q_V δ := (u236).trans v145
            have v241 := kr_t v146 u238
            have f242 := bo_l p232
            have f243 := cb_12_4 i231 k_a0
            have f244 := ti_b r229.1
            have f245 : (q_I r123 12 3 a0).toInt = (q_I r85.2 12 3 a0).toInt := ((show (q_I r123 12 3 a0).toInt = (q_I r108 12 3 a0).toInt from congrArg Int32.toInt (u141 12 3 a0 (by decide))).trans (show (q_I r108 12 3 a0).toInt = (q_I r85.2 12 3 a0).toInt from congrArg Int32.toInt (u114 12 3 a0 (by decide))))
            have f247 : (q_I r229.2 12 5 a0).toInt = (q_I r123 12 5 a0).toInt := congrArg Int32.toInt (u235 12 5 a0 (by decide))
            have ns246 : NS ad a0 r123 r229.2 := ⟨u238 112 (by decide) (by decide) (by decide), u238 113 (by decide) (by decide) (by decide), u238 114 (by decide) (by decide) (by decide), u238 115 (by decide) (by decide) (by decide), u238 116 (by decide) (by decide) (by decide), u235 12 24 _ (by decide), u235 12 25 _ (by decide), u235 12 26 _ (by decide), u235 12 27 _ (by decide), fun z => by omega⟩
            refine ok_ite (fun h248 => ?_) (fun h248 => ?_)
            · have c249 : r229.1.toInt = (0 : Int) := o_eq h248
              unfold J_X12_thief_106
              refine ok_bind (k_X12_result L hN (a0 := a0) (x1 := (q_I r229.2 12 24 a0)) k_a0 i231) (fun r250 hr251 => ?_)
              obtain ⟨i252, ⟨u254, u255, u256, u257⟩, p253⟩ := hr251
              have u258 := kp_t u239 u254
              have v259 : q_V r250.2 = q_V δ := (u255).trans v240
              have v260 := kr_t v241 u257
              have f261 := ti_b r250.1
              have f263 : (q_I r250.2 12 5 a0).toInt = (q_I r229.2 12 5 a0).toInt := congrArg Int32.toInt (u254 12 5 a0 (by decide))
              have ns262 : NS ad a0 r229.2 r250.2 := ⟨u257 112 (by decide) (by decide) (by decide), u257 113 (by decide) (by decide) (by decide), u257 114 (by decide) (by decide) (by decide), u257 115 (by decide) (by decide) (by decide), u257 116 (by decide) (by decide) (by decide), u254 12 24 _ (by decide), u254 12 25 _ (by decide), u254 12 26 _ (by decide), u254 12 27 _ (by decide), fun z => by omega⟩
              have f264 : (q_I r250.2 12 24 a0).toInt = (q_I r108 12 24 a0).toInt := ((show (q_I r250.2 12 24 a0).toInt = (q_I r229.2 12 24 a0).toInt from congrArg Int32.toInt (u254 12 24 a0 (by decide))).trans ((show (q_I r229.2 12 24 a0).toInt = (q_I r123 12 24 a0).toInt from congrArg Int32.toInt (u235 12 24 a0 (by decide))).trans (show (q_I r123 12 24 a0).toInt = (q_I r108 12 24 a0).toInt from congrArg Int32.toInt (u141 12 24 a0 (by decide)))))
              refine ok_ite (fun h265 => ?_) (fun h265 => ?_)
              · have c266 : r250.1.toInt = (q_I r250.2 12 24 a0).toInt := o_eq h265
                obtain ⟨b267, o268, k269, n270⟩ := gO_12_28 L k_a0
                obtain rfl := gS_12_28 L k_a0 o268
                refine ok_at o268 ?_
                have t271 := ti_tn (q_I r250.2 12 24 a0)
                refine ok_gd (fun hc272 => ?_) ?_
                · rcases hc272 with hc272 | hc272
                  · have c273 : (q_I r250.2 12 24 a0).toInt < (0 : Int) := o_lt hc272
                    omega
                  · omega
                have f277 : (q_I r250.2 12 25 a0).toInt = (q_I r123 12 25 a0).toInt := ((show (q_I r250.2 12 25 a0).toInt = (q_I r229.2 12 25 a0).toInt from congrArg Int32.toInt (u254 12 25 a0 (by decide))).trans (show (q_I r229.2 12 25 a0).toInt = (q_I r123 12 25 a0).toInt from congrArg Int32.toInt (u235 12 25 a0 (by decide))))
                have f278 := cb_12_25 i134 k_a0
                refine ok_bdv (fun d274 e275 => ?_)
                have i276 : RI ad h.1 δ0 d274 := by rw [e275]; exact cr_112 L i252 (show 0 ≤ (q_I r250.2 12 25 a0).toInt by omega) (show (q_I r250.2 12 25 a0).toInt ≤ 60 by omega)
                have u279 := kp_N u258 (show q_I d274 = q_I r250.2 by rw [e275]; rfl)
                have v280 : q_V d274 = q_V δ := ((show q_V d274 = q_V r250.2 by rw [e275]; rfl)).trans v259
                have v281 := kr_s L (by decide) v260 e275
                have f285 : (q_I d274 12 24 a0).toInt = (q_I r250.2 12 24 a0).toInt := congrArg Int32.toInt (by rw [e275]; rfl)
                first | (have q287 := te_addc (c := 1) (n := 1) rfl (q_I d274 12 24 a0) (by omega) (by omega); obtain ⟨f288, f289, f290⟩ := q287) | (obtain ⟨q287, f288, f289, f290⟩ := ti_addc (c := 1) (n := 1) rfl (q_I d274 12 24 a0))
                refine ok_bdv (fun d282 e283 => ?_)
                have i284 : RI ad h.1 δ0 d282 := by rw [e283]; exact cs_12_24 L i276 k_a0 (show 0 ≤ ((q_I d274 12 24 a0) + (1 : Int32)).toInt by omega) (show ((q_I d274 12 24 a0) + (1 : Int32)).toInt ≤ 4 by omega)
                have u291 := kp_I u279 e283
                have v292 : q_V d282 = q_V δ := ((show q_V d282 = q_V d274 by rw [e283]; rfl)).trans v280
                have v293 := kr_N v281 (show q_R d282 = q_R d274 by rw [e283]; rfl)
                unfold J_X12_thief_146
                have ss294 : NS ad a0 δ d1 := NS.t NS.r (NS.w e2 (by decide))
                have ss295 : NS0 ad a0 δ r10.2 := NS0.t (NS.z ss294) (NS.z ns26)
                have ss296 : NS0 ad a0 δ r37 := NS0.t ss295 ns57
                have ns298 : NS ad a0 d79 r85.2 := NS.t NS.r ns103
                have ns299 : NS ad a0 d79 r108 := NS.t ns298 ns122
                have ns300 : NS ad a0 r123 r229.2 := NS.t NS.r ns246
                have ns301 : NS ad a0 r123 r250.2 := NS.t ns300 ns262
                have f302 : (q_I d73 12 24 a0).toInt = (q_I r37 12 24 a0).toInt := ((show (q_I d73 12 24 a0).toInt = (q_I d67 12 24 a0).toInt from congrArg Int32.toInt (by rw [e74]; exact rI_o (by decide))).trans (show (q_I d67 12 24 a0).toInt = (q_I r37 12 24 a0).toInt from congrArg Int32.toInt (by rw [e68]; exact rI_o (by decide))))
                have f303 : (q_I r250.2 12 26 a0).toInt = (q_I r123 12 26 a0).toInt := ((show (q_I r250.2 12 26 a0).toInt = (q_I r229.2 12 26 a0).toInt from congrArg Int32.toInt (u254 12 26 a0 (by decide))).trans (show (q_I r229.2 12 26 a0).toInt = (q_I r123 12 26 a0).toInt from congrArg Int32.toInt (u235 12 26 a0 (by decide))))
                have ss297 : TK ad a0 δ d282 := TK.good L ss296 e68 e74 e80 ns299 p140 (u143 112 (by decide) (by decide) (by decide)) ns301 (show (0 : Int) = 0 by omega) (show (0 : Int) = 0 by omega) (show (0 : Int) = 0 by omega) (by omega) e275 e283 (show (((q_I r250.2 12 24 a0).toNatClampNeg : Nat) : Int) = (q_I δ 12 24 a0).toInt by omega) (show (q_I r250.2 12 25 a0).toInt = (q_I r250.2 12 25 a0).toInt by omega) (show ((q_I d274 12 24 a0) + (1 : Int32)).toInt = (q_I δ 12 24 a0).toInt + 1 by omega) (show (q_I r250.2 12 5 a0).toInt = -1 by omega) (show (q_I r250.2 12 26 a0).toInt ≤ 500 by omega)
                have f304 := cb_12_2 I k_a0
                have f305 : (q_I d282 12 2 a0).toInt = (q_I r37 12 2 a0).toInt := ((show (q_I d282 12 2 a0).toInt = (q_I d274 12 2 a0).toInt from congrArg Int32.toInt (by rw [e283]; exact rI_o (by decide))).trans ((show (q_I d274 12 2 a0).toInt = (q_I r250.2 12 2 a0).toInt from congrArg Int32.toInt (by rw [e275]; rfl)).trans ((show (q_I r250.2 12 2 a0).toInt = (q_I r229.2 12 2 a0).toInt from congrArg Int32.toInt (u254 12 2 a0 (by decide))).trans ((show (q_I r229.2 12 2 a0).toInt = (q_I r123 12 2 a0).toInt from congrArg Int32.toInt (u235 12 2 a0 (by decide))).trans ((show (q_I r123 12 2 a0).toInt = (q_I r108 12 2 a0).toInt from congrArg Int32.toInt (u141 12 2 a0 (by decide))).trans ((show (q_I r108 12 2 a0).toInt = (q_I r85.2 12 2 a0).toInt from congrArg Int32.toInt (u114 12 2 a0 (by decide))).trans ((show (q_I r85.2 12 2 a0).toInt = (q_I d79 12 2 a0).toInt from congrArg Int32.toInt (u91 12 2 a0 (by decide))).trans ((show (q_I d79 12 2 a0).toInt = (q_I d73 12 2 a0).toInt from congrArg Int32.toInt (by rw [e80]; exact rI_o (by decide))).trans ((show (q_I d73 12 2 a0).toInt = (q_I d67 12 2 a0).toInt from congrArg Int32.toInt (by rw [e74]; exact rI_o (by decide))).trans (show (q_I d67 12 2 a0).toInt = (q_I r37 12 2 a0).toInt from congrArg Int32.toInt (by rw [e68]; exact rI_o (by decide))))))))))))
                exact ok_some (show RI ad h.1 δ0 d282 ∧ (kp [(12, 0), (12, 2), (12, 3), (12, 4), (12, 5), (12, 6), (12, 7), (12, 8), (12, 24), (12, 25), (12, 26), (12, 27)] δ d282 ∧ q_V d282 = q_V δ ∧ kr ad [100, 112, 113, 114, 115, 116, 117] δ d282) ∧ TK ad a0 δ d282 ∧ (0 ≤ (x1).toInt ∧ (x1).toInt ≤ (q_I δ 12 2 a0).toInt → (q_I d282 12 2 a0).toInt = 0) ∧ ((x1).toInt < 0 ∨ (q_I δ 12 2 a0).toInt < (x1).toInt → (q_I d282 12 2 a0).toInt = (q_I δ 12 2 a0).toInt) from ⟨i284, ⟨kp_w (by decide) u291, v292, kr_w (by decide) v293⟩, ss297, by first | with_reducible assumption | omega, by first | with_reducible assumption | omega⟩)
              · have c306 : r250.1.toInt ≠ (q_I r250.2 12 24 a0).toInt := o_ne h265
                unfold J_X12_thief_146
                have ss307 : NS ad a0 δ d1 := NS.t NS.r (NS.w e2 (by decide))
                have ss308 : NS0 ad a0 δ r10.2 := NS0.t (NS.z ss307) (NS.z ns26)
                have ss309 : NS0 ad a0 δ r37 := NS0.t ss308 ns57
                have ns311 : NS ad a0 d79 r85.2 := NS.t NS.r ns103
                have ns312 : NS ad a0 d79 r108 := NS.t ns311 ns122
                have ns313 : NS ad a0 r123 r229.2 := NS.t NS.r ns246
                have ns314 : NS ad a0 r123 r250.2 := NS.t ns313 ns262
                have f315 : (q_I d73 12 24 a0).toInt = (q_I r37 12 24 a0).toInt := ((show (q_I d73 12 24 a0).toInt = (q_I d67 12 24 a0).toInt from congrArg Int32.toInt (by rw [e74]; exact rI_o (by decide))).trans (show (q_I d67 12 24 a0).toInt = (q_I r37 12 24 a0).toInt from congrArg Int32.toInt (by rw [e68]; exact rI_o (by decide))))
                have ss310 : TK ad a0 δ r250.2 := TK.bad L ss309 e68 e74 e80 ns312 p140 (u143 112 (by decide) (by decide) (by decide)) ns314 (show (0 : Int) = 0 by omega) (show (0 : Int) = 0 by omega) (show (0 : Int) = 0 by omega) (by omega)
                have f316 := cb_12_2 I k_a0
                have f317 : (q_I r250.2 12 2 a0).toInt = (q_I r37 12 2 a0).toInt := ((show (q_I r250.2 12 2 a0).toInt = (q_I r229.2 12 2 a0).toInt from congrArg Int32.toInt (u254 12 2 a0 (by decide))).trans ((show (q_I r229.2 12 2 a0).toInt = (q_I r123 12 2 a0).toInt from congrArg Int32.toInt (u235 12 2 a0 (by decide))).trans ((show (q_I r123 12 2 a0).toInt = (q_I r108 12 2 a0).toInt from congrArg Int32.toInt (u141 12 2 a0 (by decide))).trans ((show (q_I r108 12 2 a0).toInt = (q_I r85.2 12 2 a0).toInt from congrArg Int32.toInt (u114 12 2 a0 (by decide))).trans ((show (q_I r85.2 12 2 a0).toInt = (q_I d79 12 2 a0).toInt from congrArg Int32.toInt (u91 12 2 a0 (by decide))).trans ((show (q_I d79 12 2 a0).toInt = (q_I d73 12 2 a0).toInt from congrArg Int32.toInt (by rw [e80]; exact rI_o (by decide))).trans ((show (q_I d73 12 2 a0).toInt = (q_I d67 12 2 a0).toInt from congrArg Int32.toInt (by rw [e74]; exact rI_o (by decide))).trans (show (q_I d67 12 2 a0).toInt = (q_I r37 12 2 a0).toInt from congrArg Int32.toInt (by rw [e68]; exact rI_o (by decide))))))))))
                exact ok_some (show RI ad h.1 δ0 r250.2 ∧ (kp [(12, 0), (12, 2), (12, 3), (12, 4), (12, 5), (12, 6), (12, 7), (12, 8), (12, 24), (12, 25), (12, 26), (12, 27)] δ r250.2 ∧ q_V r250.2 = q_V δ ∧ kr ad [100, 112, 113, 114, 115, 116, 117] δ r250.2) ∧ TK ad a0 δ r250.2 ∧ (0 ≤ (x1).toInt ∧ (x1).toInt ≤ (q_I δ 12 2 a0).toInt → (q_I r250.2 12 2 a0).toInt = 0) ∧ ((x1).toInt < 0 ∨ (q_I δ 12 2 a0).toInt < (x1).toInt → (q_I r250.2 12 2 a0).toInt = (q_I δ 12 2 a0).toInt) from ⟨i252, ⟨kp_w (by decide) u258, v259, kr_w (by decide) v260⟩, ss310, by first | with_reducible assumption | omega, by first | with_reducible assumption | omega⟩)
            · have c318 : r229.1.toInt ≠ (0 : Int) := o_ne h248
              refine ok_bind (k_X12_wrong L hN (a0 := a0) (x1 := (1 : Int32)) (x2 := (q_I r229.2 12 4 a0)) k_a0 (show 0 ≤ ((q_I r229.2 12 4 a0)).toInt by first | with_reducible assumption | omega) (show ((q_I r229.2 12 4 a0)).toInt ≤ 500 by first | with_reducible assumption | omega) (show 0 ≤ (1 : Int) by first | with_reducible assumption | omega) (show (1 : Int) ≤ 4 by first | with_reducible assumption | omega) i231) (fun r319 hr320 => ?_)
              obtain ⟨i321, ⟨u324, u325, u326, u327⟩, p322, p323⟩ := hr320
              have u328 := kp_t u239 u324
              have v329 : q_V r319 = q_V δ := (u325).trans v240
              have v330 := kr_t v241 u327
              have f331 := cb_12_5 i321 k_a0
              have ns332 : NS ad a0 r229.2 r319 := ⟨u327 112 (by decide) (by decide) (by decide), u327 113 (by decide) (by decide) (by decide), u327 114 (by decide) (by decide) (by decide), u327 115 (by decide) (by decide) (by decide), u327 116 (by decide) (by decide) (by decide), u324 12 24 _ (by decide), u324 12 25 _ (by decide), u324 12 26 _ (by decide), u324 12 27 _ (by decide), fun z => by omega⟩
              unfold J_X12_thief_106
              refine ok_bind (k_X12_result L hN (a0 := a0) (x1 := (q_I r319 12 24 a0)) k_a0 i321) (fun r333 hr334 => ?_)
              obtain ⟨i335, ⟨u337, u338, u339, u340⟩, p336⟩ := hr334
              have u341 := kp_t u328 u337
              have v342 : q_V r333.2 = q_V δ := (u338).trans v329
              have v343 := kr_t v330 u340
              have f344 := ti_b r333.1
              have f346 : (q_I r333.2 12 5 a0).toInt = (q_I r319 12 5 a0).toInt := congrArg Int32.toInt (u337 12 5 a0 (by decide))
              have ns345 : NS ad a0 r319 r333.2 := ⟨u340 112 (by decide) (by decide) (by decide), u340 113 (by decide) (by decide) (by decide), u340 114 (by decide) (by decide) (by decide), u340 115 (by decide) (by decide) (by decide), u340 116 (by decide) (by decide) (by decide), u337 12 24 _ (by decide), u337 12 25 _ (by decide), u337 12 26 _ (by decide), u337 12 27 _ (by decide), fun z => by omega⟩
              have f347 : (q_I r333.2 12 24 a0).toInt = (q_I r108 12 24 a0).toInt := ((show (q_I r333.2 12 24 a0).toInt = (q_I r319 12 24 a0).toInt from congrArg Int32.toInt (u337 12 24 a0 (by decide))).trans ((show (q_I r319 12 24 a0).toInt = (q_I r229.2 12 24 a0).toInt from congrArg Int32.toInt (u324 12 24 a0 (by decide))).trans ((show (q_I r229.2 12 24 a0).toInt = (q_I r123 12 24 a0).toInt from congrArg Int32.toInt (u235 12 24 a0 (by decide))).trans (show (q_I r123 12 24 a0).toInt = (q_I r108 12 24 a0).toInt from congrArg Int32.toInt (u141 12 24 a0 (by decide))))))
              refine ok_ite (fun h348 => ?_) (fun h348 => ?_)
              · have c349 : r333.1.toInt = (q_I r333.2 12 24 a0).toInt := o_eq h348
                obtain ⟨b350, o351, k352, n353⟩ := gO_12_28 L k_a0
                obtain rfl := gS_12_28 L k_a0 o351
                refine ok_at o351 ?_
                have t354 := ti_tn (q_I r333.2 12 24 a0)
                refine ok_gd (fun hc355 => ?_) ?_
                · rcases hc355 with hc355 | hc355
                  · have c356 : (q_I r333.2 12 24 a0).toInt < (0 : Int) := o_lt hc355
                    omega
                  · omega
                have f360 : (q_I r333.2 12 25 a0).toInt = (q_I r123 12 25 a0).toInt := ((show (q_I r333.2 12 25 a0).toInt = (q_I r319 12 25 a0).toInt from congrArg Int32.toInt (u337 12 25 a0 (by decide))).trans ((show (q_I r319 12 25 a0).toInt = (q_I r229.2 12 25 a0).toInt from congrArg Int32.toInt (u324 12 25 a0 (by decide))).trans (show (q_I r229.2 12 25 a0).toInt = (q_I r123 12 25 a0).toInt from congrArg Int32.toInt (u235 12 25 a0 (by decide)))))
                have f361 := cb_12_25 i134 k_a0
                refine ok_bdv (fun d357 e358 => ?_)
                have i359 : RI ad h.1 δ0 d357 := by rw [e358]; exact cr_112 L i335 (show 0 ≤ (q_I r333.2 12 25 a0).toInt by omega) (show (q_I r333.2 12 25 a0).toInt ≤ 60 by omega)
                have u362 := kp_N u341 (show q_I d357 = q_I r333.2 by rw [e358]; rfl)
                have v363 : q_V d357 = q_V δ := ((show q_V d357 = q_V r333.2 by rw [e358]; rfl)).trans v342
                have v364 := kr_s L (by decide) v343 e358
                have f368 : (q_I d357 12 24 a0).toInt = (q_I r333.2 12 24 a0).toInt := congrArg Int32.toInt (by rw [e358]; rfl)
                first | (have q370 := te_addc (c := 1) (n := 1) rfl (q_I d357 12 24 a0) (by omega) (by omega); obtain ⟨f371, f372, f373⟩ := q370) | (obtain ⟨q370, f371, f372, f373⟩ := ti_addc (c := 1) (n := 1) rfl (q_I d357 12 24 a0))
                refine ok_bdv (fun d365 e366 => ?_)
                have i367 : RI ad h.1 δ0 d365 := by rw [e366]; exact cs_12_24 L i359 k_a0 (show 0 ≤ ((q_I d357 12 24 a0) + (1 : Int32)).toInt by omega) (show ((q_I d357 12 24 a0) + (1 : Int32)).toInt ≤ 4 by omega)
                have u374 := kp_I u362 e366
                have v375 : q_V d365 = q_V δ := ((show q_V d365 = q_V d357 by rw [e366]; rfl)).trans v363
                have v376 := kr_N v364 (show q_R d365 = q_R d357 by rw [e366]; rfl)
                unfold J_X12_thief_146
                have ss377 : NS ad a0 δ d1 := NS.t NS.r (NS.w e2 (by decide))
                have ss378 : NS0 ad a0 δ r10.2 := NS0.t (NS.z ss377) (NS.z ns26)
                have ss379 : NS0 ad a0 δ r37 := NS0.t ss378 ns57
                have ns381 : NS ad a0 d79 r85.2 := NS.t NS.r ns103
                have ns382 : NS ad a0 d79 r108 := NS.t ns381 ns122
                have ns383 : NS ad a0 r123 r229.2 := NS.t NS.r ns246
                have ns384 : NS ad a0 r123 r319 := NS.t ns383 ns332
                have ns385 : NS ad a0 r123 r333.2 := NS.t ns384 ns345
                have f386 : (q_I d73 12 24 a0).toInt = (q_I r37 12 24 a0).toInt := ((show (q_I d73 12 24 a0).toInt = (q_I d67 12 24 a0).toInt from congrArg Int32.toInt (by rw [e74]; exact rI_o (by decide))).trans (show (q_I d67 12 24 a0).toInt = (q_I r37 12 24 a0).toInt from congrArg Int32.toInt (by rw [e68]; exact rI_o (by decide))))
                have f387 : (q_I r333.2 12 26 a0).toInt = (q_I r123 12 26 a0).toInt := ((show (q_I r333.2 12 26 a0).toInt = (q_I r319 12 26 a0).toInt from congrArg Int32.toInt (u337 12 26 a0 (by decide))).trans ((show (q_I r319 12 26 a0).toInt = (q_I r229.2 12 26 a0).toInt from congrArg Int32.toInt (u324 12 26 a0 (by decide))).trans (show (q_I r229.2 12 26 a0).toInt = (q_I r123 12 26 a0).toInt from congrArg Int32.toInt (u235 12 26 a0 (by decide)))))
                have ss380 : TK ad a0 δ d365 := TK.good L ss379 e68 e74 e80 ns382 p140 (u143 112 (by decide) (by decide) (by decide)) ns385 (show (0 : Int) = 0 by omega) (show (0 : Int) = 0 by omega) (show (0 : Int) = 0 by omega) (by omega) e358 e366 (show (((q_I r333.2 12 24 a0).toNatClampNeg : Nat) : Int) = (q_I δ 12 24 a0).toInt by omega) (show (q_I r333.2 12 25 a0).toInt = (q_I r333.2 12 25 a0).toInt by omega) (show ((q_I d357 12 24 a0) + (1 : Int32)).toInt = (q_I δ 12 24 a0).toInt + 1 by omega) (show (q_I r333.2 12 5 a0).toInt = -1 by omega) (show (q_I r333.2 12 26 a0).toInt ≤ 500 by omega)
                have f388 := cb_12_2 I k_a0
                have f389 : (q_I d365 12 2 a0).toInt = (q_I r37 12 2 a0).toInt := ((show (q_I d365 12 2 a0).toInt = (q_I d357 12 2 a0).toInt from congrArg Int32.toInt (by rw [e366]; exact rI_o (by decide))).trans ((show (q_I d357 12 2 a0).toInt = (q_I r333.2 12 2 a0).toInt from congrArg Int32.toInt (by rw [e358]; rfl)).trans ((show (q_I r333.2 12 2 a0).toInt = (q_I r319 12 2 a0).toInt from congrArg Int32.toInt (u337 12 2 a0 (by decide))).trans ((show (q_I r319 12 2 a0).toInt = (q_I r229.2 12 2 a0).toInt from congrArg Int32.toInt (u324 12 2 a0 (by decide))).trans ((show (q_I r229.2 12 2 a0).toInt = (q_I r123 12 2 a0).toInt from congrArg Int32.toInt (u235 12 2 a0 (by decide))).trans ((show (q_I r123 12 2 a0).toInt = (q_I r108 12 2 a0).toInt from congrArg Int32.toInt (u141 12 2 a0 (by decide))).trans ((show (q_I r108 12 2 a0).toInt = (q_I r85.2 12 2 a0).toInt from congrArg Int32.toInt (u114 12 2 a0 (by decide))).trans ((show (q_I r85.2 12 2 a0).toInt = (q_I d79 12 2 a0).toInt from congrArg Int32.toInt (u91 12 2 a0 (by decide))).trans ((show (q_I d79 12 2 a0).toInt = (q_I d73 12 2 a0).toInt from congrArg Int32.toInt (by rw [e80]; exact rI_o (by decide))).trans ((show (q_I d73 12 2 a0).toInt = (q_I d67 12 2 a0).toInt from congrArg Int32.toInt (by rw [e74]; exact rI_o (by decide))).trans (show (q_I d67 12 2 a0).toInt = (q_I r37 12 2 a0).toInt from congrArg Int32.toInt (by rw [e68]; exact rI_o (by decide)))))))))))))
                exact ok_some (show RI ad h.1 δ0 d365 ∧ (kp [(12, 0), (12, 2), (12, 3), (12, 4), (12, 5), (12, 6), (12, 7), (12, 8), (12, 24), (12, 25), (12, 26), (12, 27)] δ d365 ∧ q_V d365 = q_V δ ∧ kr ad [100, 112, 113, 114, 115, 116, 117] δ d365) ∧ TK ad a0 δ d365 ∧ (0 ≤ (x1).toInt ∧ (x1).toInt ≤ (q_I δ 12 2 a0).toInt → (q_I d365 12 2 a0).toInt = 0) ∧ ((x1).toInt < 0 ∨ (q_I δ 12 2 a0).toInt < (x1).toInt → (q_I d365 12 2 a0).toInt = (q_I δ 12 2 a0).toInt) from ⟨i367, ⟨kp_w (by decide) u374, v375, kr_w (by decide) v376⟩, ss380, by first | with_reducible assumption | omega, by first | with_reducible assumption | omega⟩)
              · have c390 : r333.1.toInt ≠ (q_I r333.2 12 24 a0).toInt := o_ne h348
                unfold J_X12_thief_146
                have ss391 : NS ad a0 δ d1 := NS.t NS.r (NS.w e2 (by decide))
                have ss392 : NS0 ad a0 δ r10.2 := NS0.t (NS.z ss391) (NS.z ns26)
                have ss393 : NS0 ad a0 δ r37 := NS0.t ss392 ns57
                have ns395 : NS ad a0 d79 r85.2 := NS.t NS.r ns103
                have ns396 : NS ad a0 d79 r108 := NS.t ns395 ns122
                have ns397 : NS ad a0 r123 r229.2 := NS.t NS.r ns246
                have ns398 : NS ad a0 r123 r319 := NS.t ns397 ns332
                have ns399 : NS ad a0 r123 r333.2 := NS.t ns398 ns345
                have f400 : (q_I d73 12 24 a0).toInt = (q_I r37 12 24 a0).toInt := ((show (q_I d73 12 24 a0).toInt = (q_I d67 12 24 a0).toInt from congrArg Int32.toInt (by rw [e74]; exact rI_o (by decide))).trans (show (q_I d67 12 24 a0).toInt = (q_I r37 12 24 a0).toInt from congrArg Int32.toInt (by rw [e68]; exact rI_o (by decide))))
                have ss394 : TK ad a0 δ r333.2 := TK.bad L ss393 e68 e74 e80 ns396 p140 (u143 112 (by decide) (by decide) (by decide)) ns399 (show (0 : Int) = 0 by omega) (show (0 : Int) = 0 by omega) (show (0 : Int) = 0 by omega) (by omega)
                have f401 := cb_12_2 I k_a0
                have f402 : (q_I r333.2 12 2 a0).toInt = (q_I r37 12 2 a0).toInt := ((show (q_I r333.2 12 2 a0).toInt = (q_I r319 12 2 a0).toInt from congrArg Int32.toInt (u337 12 2 a0 (by decide))).trans ((show (q_I r319 12 2 a0).toInt = (q_I r229.2 12 2 a0).toInt from congrArg Int32.toInt (u324 12 2 a0 (by decide))).trans ((show (q_I r229.2 12 2 a0).toInt = (q_I r123 12 2 a0).toInt from congrArg Int32.toInt (u235 12 2 a0 (by decide))).trans ((show (q_I r123 12 2 a0).toInt = (q_I r108 12 2 a0).toInt from congrArg Int32.toInt (u141 12 2 a0 (by decide))).trans ((show (q_I r108 12 2 a0).toInt = (q_I r85.2 12 2 a0).toInt from congrArg Int32.toInt (u114 12 2 a0 (by decide))).trans ((show (q_I r85.2 12 2 a0).toInt = (q_I d79 12 2 a0).toInt from congrArg Int32.toInt (u91 12 2 a0 (by decide))).trans ((show (q_I d79 12 2 a0).toInt = (q_I d73 12 2 a0).toInt from congrArg Int32.toInt (by rw [e80]; exact rI_o (by decide))).trans ((show (q_I d73 12 2 a0).toInt = (q_I d67 12 2 a0).toInt from congrArg Int32.toInt (by rw [e74]; exact rI_o (by decide))).trans (show (q_I d67 12 2 a0).toInt = (q_I r37 12 2 a0).toInt from congrArg Int32.toInt (by rw [e68]; exact rI_o (by decide)))))))))))
                exact ok_some (show RI ad h.1 δ0 r333.2 ∧ (kp [(12, 0), (12, 2), (12, 3), (12, 4), (12, 5), (12, 6), (12, 7), (12, 8), (12, 24), (12, 25), (12, 26), (12, 27)] δ r333.2 ∧ q_V r333.2 = q_V δ ∧ kr ad [100, 112, 113, 114, 115, 116, 117] δ r333.2) ∧ TK ad a0 δ r333.2 ∧ (0 ≤ (x1).toInt ∧ (x1).toInt ≤ (q_I δ 12 2 a0).toInt → (q_I r333.2 12 2 a0).toInt = 0) ∧ ((x1).toInt < 0 ∨ (q_I δ 12 2 a0).toInt < (x1).toInt → (q_I r333.2 12 2 a0).toInt = (q_I δ 12 2 a0).toInt) from ⟨i335, ⟨kp_w (by decide) u341, v342, kr_w (by decide) v343⟩, ss394, by first | with_reducible assumption | omega, by first | with_reducible assumption | omega⟩)
        · have c403 : r85.1.toInt ≠ (0 : Int) := o_ne h106
          unfold J_X12_thief_79
          have f406 : (q_I r85.2 12 24 a0).toInt = (q_I r37 12 24 a0).toInt := ((show (q_I r85.2 12 24 a0).toInt = (q_I d79 12 24 a0).toInt from congrArg Int32.toInt (u91 12 24 a0 (by decide))).trans ((show (q_I d79 12 24 a0).toInt = (q_I d73 12 24 a0).toInt from congrArg Int32.toInt (by rw [e80]; exact rI_o (by decide))).trans ((show (q_I d73 12 24 a0).toInt = (q_I d67 12 24 a0).toInt from congrArg Int32.toInt (by rw [e74]; exact rI_o (by decide))).trans (show (q_I d67 12 24 a0).toInt = (q_I r37 12 24 a0).toInt from congrArg Int32.toInt (by rw [e68]; exact rI_o (by decide))))))
          have f407 : (q_I r85.2 12 26 a0).toInt = (q_I d73 12 26 a0).toInt := ((show (q_I r85.2 12 26 a0).toInt = (q_I d79 12 26 a0).toInt from congrArg Int32.toInt (u91 12 26 a0 (by decide))).trans (show (q_I d79 12 26 a0).toInt = (q_I d73 12 26 a0).toInt from congrArg Int32.toInt (by rw [e80]; exact rI_o (by decide))))
          have f408 := cb_12_26 i75 k_a0
          have f409 : (q_I d73 12 26 a0).toInt = (0 : Int) := congrArg Int32.toInt (show q_I d73 12 26 a0 = (0 : Int32) by rw [e74]; exact rI_s)
          have f410 : (q_I r85.2 12 7 a0).toInt = (q_I r37 12 7 a0).toInt := ((show (q_I r85.2 12 7 a0).toInt = (q_I d79 12 7 a0).toInt from congrArg Int32.toInt (u91 12 7 a0 (by decide))).trans ((show (q_I d79 12 7 a0).toInt = (q_I d73 12 7 a0).toInt from congrArg Int32.toInt (by rw [e80]; exact rI_o (by decide))).trans ((show (q_I d73 12 7 a0).toInt = (q_I d67 12 7 a0).toInt from congrArg Int32.toInt (by rw [e74]; exact rI_o (by decide))).trans (show (q_I d67 12 7 a0).toInt = (q_I r37 12 7 a0).toInt from congrArg Int32.toInt (by rw [e68]; exact rI_o (by decide))))))
          have f411 : (q_I r85.2 12 27 a0).toInt = (q_I d79 12 27 a0).toInt := congrArg Int32.toInt (u91 12 27 a0 (by decide))
          have f412 := cb_12_27 i81 k_a0
          have f413 : (q_I d79 12 27 a0).toInt = (0 : Int) := congrArg Int32.toInt (show q_I d79 12 27 a0 = (0 : Int32) by rw [e80]; exact rI_s)
          refine ok_bind (k_X12_readSteps L hN (a0 := a0) k_a0 (show (q_I r85.2 12 24 a0).toInt ≤ 3 by first | with_reducible assumption | omega) (show (q_I r85.2 12 26 a0).toInt ≤ (q_I r85.2 12 4 a0).toInt by first | with_reducible assumption | omega) (show (q_I r85.2 12 7 a0).toInt = 0 by first | with_reducible assumption | omega) (show 4 - (q_I r85.2 12 27 a0).toInt < 20 by first | with_reducible assumption | omega) i87) (fun r404 hr405 => ?_)
          obtain ⟨i414, ⟨u421, u422, u423⟩, p415, p416, p417, p418, p419, p420⟩ := hr405
          have u424 := kp_t u95 u421
          have v425 : q_V r404 = q_V δ := (u422).trans v96
          have v426 := kr_t v97 u423
          have f427 := cb_12_4 i414 k_a0
          have f428 := cb_12_5 i414 k_a0
          have f429 := ti_b (q_I r404 12 7 a0)
          have f430 := cb_12_27 i414 k_a0
          have f431 := cb_12_26 i414 k_a0
          refine ok_bind (k_X12_fine L hN (a0 := a0) k_a0 i414) (fun r432 hr433 => ?_)
          obtain ⟨i434, p435, p436, p437⟩ := hr433
          try rw [i434]
          have f438 := bo_l p435
          have f439 := ti_b r432.1
          refine ok_ite (fun h440 => ?_) (fun h440 => ?_)
          · have c441 : r432.1.toInt = (0 : Int) := o_eq h440
            unfold J_X12_thief_106
            refine ok_bind (k_X12_result L hN (a0 := a0) (x1 := (q_I r404 12 24 a0)) k_a0 i414) (fun r442 hr443 => ?_)
            obtain ⟨i444, ⟨u446, u447, u448, u449⟩, p445⟩ := hr443
            have u450 := kp_t u424 u446
            have v451 : q_V r442.2 = q_V δ := (u447).trans v425
            have v452 := kr_t v426 u449
            have f453 := ti_b r442.1
            have f455 : (q_I r442.2 12 5 a0).toInt = (q_I r404 12 5 a0).toInt := congrArg Int32.toInt (u446 12 5 a0 (by decide))
            have ns454 : NS ad a0 r404 r442.2 := ⟨u449 112 (by decide) (by decide) (by decide), u449 113 (by decide) (by decide) (by decide), u449 114 (by decide) (by decide) (by decide), u449 115 (by decide) (by decide) (by decide), u449 116 (by decide) (by decide) (by decide), u446 12 24 _ (by decide), u446 12 25 _ (by decide), u446 12 26 _ (by decide), u446 12 27 _ (by decide), fun z => by omega⟩
            have f456 : (q_I r442.2 12 24 a0).toInt = (q_I r85.2 12 24 a0).toInt := ((show (q_I r442.2 12 24 a0).toInt = (q_I r404 12 24 a0).toInt from congrArg Int32.toInt (u446 12 24 a0 (by decide))).trans (show (q_I r404 12 24 a0).toInt = (q_I r85.2 12 24 a0).toInt from congrArg Int32.toInt (u421 12 24 a0 (by decide))))
            refine ok_ite (fun h457 => ?_) (fun h457 => ?_)
            · have c458 : r442.1.toInt = (q_I r442.2 12 24 a0).toInt := o_eq h457
              obtain ⟨b459, o460, k461, n462⟩ := gO_12_28 L k_a0
              obtain rfl := gS_12_28 L k_a0 o460
              refine ok_at o460 ?_
              have t463 := ti_tn (q_I r442.2 12 24 a0)
              refine ok_gd (fun hc464 => ?_) ?_
              · rcases hc464 with hc464 | hc464
                · have c465 : (q_I r442.2 12 24 a0).toInt < (0 : Int) := o_lt hc464
                  omega
                · omega
              have f469 : (q_I r442.2 12 25 a0).toInt = (q_I r404 12 25 a0).toInt := congrArg Int32.toInt (u446 12 25 a0 (by decide))
              have f470 := cb_12_25 i414 k_a0
              refine ok_bdv (fun d466 e467 => ?_)
              have i468 : RI ad h.1 δ0 d466 := by rw [e467]; exact cr_112 L i444 (show 0 ≤ (q_I r442.2 12 25 a0).toInt by omega) (show (q_I r442.2 12 25 a0).toInt ≤ 60 by omega)
              have u471 := kp_N u450 (show q_I d466 = q_I r442.2 by rw [e467]; rfl)
              have v472 : q_V d466 = q_V δ := ((show q_V d466 = q_V r442.2 by rw [e467]; rfl)).trans v451
              have v473 := kr_s L (by decide) v452 e467
              have f477 : (q_I d466 12 24 a0).toInt = (q_I r442.2 12 24 a0).toInt := congrArg Int32.toInt (by rw [e467]; rfl)
              first | (have q479 := te_addc (c := 1) (n := 1) rfl (q_I d466 12 24 a0) (by omega) (by omega); obtain ⟨f480, f481, f482⟩ := q479) | (obtain ⟨q479, f480, f481, f482⟩ := ti_addc (c := 1) (n := 1) rfl (q_I d466 12 24 a0))
              refine ok_bdv (fun d474 e475 => ?_)
              have i476 : RI ad h.1 δ0 d474 := by rw [e475]; exact cs_12_24 L i468 k_a0 (show 0 ≤ ((q_I d466 12 24 a0) + (1 : Int32)).toInt by omega) (show ((q_I d466 12 24 a0) + (1 : Int32)).toInt ≤ 4 by omega)
              have u483 := kp_I u471 e475
              have v484 : q_V d474 = q_V δ := ((show q_V d474 = q_V d466 by rw [e475]; rfl)).trans v472
              have v485 := kr_N v473 (show q_R d474 = q_R d466 by rw [e475]; rfl)
              unfold J_X12_thief_146
              have ss486 : NS ad a0 δ d1 := NS.t NS.r (NS.w e2 (by decide))
              have ss487 : NS0 ad a0 δ r10.2 := NS0.t (NS.z ss486) (NS.z ns26)
              have ss488 : NS0 ad a0 δ r37 := NS0.t ss487 ns57
              have ns490 : NS ad a0 d79 r85.2 := NS.t NS.r ns103
              have ns491 : NS ad a0 r404 r442.2 := NS.t NS.r ns454
              have f492 : (q_I d73 12 24 a0).toInt = (q_I r37 12 24 a0).toInt := ((show (q_I d73 12 24 a0).toInt = (q_I d67 12 24 a0).toInt from congrArg Int32.toInt (by rw [e74]; exact rI_o (by decide))).trans (show (q_I d67 12 24 a0).toInt = (q_I r37 12 24 a0).toInt from congrArg Int32.toInt (by rw [e68]; exact rI_o (by decide))))
              have f493 : (q_I r442.2 12 26 a0).toInt = (q_I r404 12 26 a0).toInt := congrArg Int32.toInt (u446 12 26 a0 (by decide))
              have ss489 : TK ad a0 δ d474 := TK.good L ss488 e68 e74 e80 ns490 p420 (u423 112 (by decide) (by decide) (by decide)) ns491 (show (0 : Int) = 0 by omega) (show (0 : Int) = 0 by omega) (show (0 : Int) = 0 by omega) (by omega) e467 e475 (show (((q_I r442.2 12 24 a0).toNatClampNeg : Nat) : Int) = (q_I δ 12 24 a0).toInt by omega) (show (q_I r442.2 12 25 a0).toInt = (q_I r442.2 12 25 a0).toInt by omega) (show ((q_I d466 12 24 a0) + (1 : Int32)).toInt = (q_I δ 12 24 a0).toInt + 1 by omega) (show (q_I r442.2 12 5 a0).toInt = -1 by omega) (show (q_I r442.2 12 26 a0).toInt ≤ 500 by omega)
              have f494 := cb_12_2 I k_a0
              have f495 : (q_I d474 12 2 a0).toInt = (q_I r37 12 2 a0).toInt := ((show (q_I d474 12 2 a0).toInt = (q_I d466 12 2 a0).toInt from congrArg Int32.toInt (by rw [e475]; exact rI_o (by decide))).trans ((show (q_I d466 12 2 a0).toInt = (q_I r442.2 12 2 a0).toInt from congrArg Int32.toInt (by rw [e467]; rfl)).trans ((show (q_I r442.2 12 2 a0).toInt = (q_I r404 12 2 a0).toInt from congrArg Int32.toInt (u446 12 2 a0 (by decide))).trans ((show (q_I r404 12 2 a0).toInt = (q_I r85.2 12 2 a0).toInt from congrArg Int32.toInt (u421 12 2 a0 (by decide))).trans ((show (q_I r85.2 12 2 a0).toInt = (q_I d79 12 2 a0).toInt from congrArg Int32.toInt (u91 12 2 a0 (by decide))).trans ((show (q_I d79 12 2 a0).toInt = (q_I d73 12 2 a0).toInt from congrArg Int32.toInt (by rw [e80]; exact rI_o (by decide))).trans ((show (q_I d73 12 2 a0).toInt = (q_I d67 12 2 a0).toInt from congrArg Int32.toInt (by rw [e74]; exact rI_o (by decide))).trans (show (q_I d67 12 2 a0).toInt = (q_I r37 12 2 a0).toInt from congrArg Int32.toInt (by rw [e68]; exact rI_o (by decide))))))))))
              exact ok_some (show RI ad h.1 δ0 d474 ∧ (kp [(12, 0), (12, 2), (12, 3), (12, 4), (12, 5), (12, 6), (12, 7), (12, 8), (12, 24), (12, 25), (12, 26), (12, 27)] δ d474 ∧ q_V d474 = q_V δ ∧ kr ad [100, 112, 113, 114, 115, 116, 117] δ d474) ∧ TK ad a0 δ d474 ∧ (0 ≤ (x1).toInt ∧ (x1).toInt ≤ (q_I δ 12 2 a0).toInt → (q_I d474 12 2 a0).toInt = 0) ∧ ((x1).toInt < 0 ∨ (q_I δ 12 2 a0).toInt < (x1).toInt → (q_I d474 12 2 a0).toInt = (q_I δ 12 2 a0).toInt) from ⟨i476, ⟨kp_w (by decide) u483, v484, kr_w (by decide) v485⟩, ss489, by first | with_reducible assumption | omega, by first | with_reducible assumption | omega⟩)
            · have c496 : r442.1.toInt ≠ (q_I r442.2 12 24 a0).toInt := o_ne h457
              unfold J_X12_thief_146
              have ss497 : NS ad a0 δ d1 := NS.t NS.r (NS.w e2 (by decide))
              have ss498 : NS0 ad a0 δ r10.2 := NS0.t (NS.z ss497) (NS.z ns26)
              have ss499 : NS0 ad a0 δ r37 := NS0.t ss498 ns57
              have ns501 : NS ad a0 d79 r85.2 := NS.t NS.r ns103
              have ns502 : NS ad a0 r404 r442.2 := NS.t NS.r ns454
              have f503 : (q_I d73 12 24 a0).toInt = (q_I r37 12 24 a0).toInt := ((show (q_I d73 12 24 a0).toInt = (q_I d67 12 24 a0).toInt from congrArg Int32.toInt (by rw [e74]; exact rI_o (by decide))).trans (show (q_I d67 12 24 a0).toInt = (q_I r37 12 24 a0).toInt from congrArg Int32.toInt (by rw [e68]; exact rI_o (by decide))))
              have ss500 : TK ad a0 δ r442.2 := TK.bad L ss499 e68 e74 e80 ns501 p420 (u423 112 (by decide) (by decide) (by decide)) ns502 (show (0 : Int) = 0 by omega) (show (0 : Int) = 0 by omega) (show (0 : Int) = 0 by omega) (by omega)
              have f504 := cb_12_2 I k_a0
              have f505 : (q_I r442.2 12 2 a0).toInt = (q_I r37 12 2 a0).toInt := ((show (q_I r442.2 12 2 a0).toInt = (q_I r404 12 2 a0).toInt from congrArg Int32.toInt (u446 12 2 a0 (by decide))).trans ((show (q_I r404 12 2 a0).toInt = (q_I r85.2 12 2 a0).toInt from congrArg Int32.toInt (u421 12 2 a0 (by decide))).trans ((show (q_I r85.2 12 2 a0).toInt = (q_I d79 12 2 a0).toInt from congrArg Int32.toInt (u91 12 2 a0 (by decide))).trans ((show (q_I d79 12 2 a0).toInt = (q_I d73 12 2 a0).toInt from congrArg Int32.toInt (by rw [e80]; exact rI_o (by decide))).trans ((show (q_I d73 12 2 a0).toInt = (q_I d67 12 2 a0).toInt from congrArg Int32.toInt (by rw [e74]; exact rI_o (by decide))).trans (show (q_I d67 12 2 a0).toInt = (q_I r37 12 2 a0).toInt from congrArg Int32.toInt (by rw [e68]; exact rI_o (by decide))))))))
              exact ok_some (show RI ad h.1 δ0 r442.2 ∧ (kp [(12, 0), (12, 2), (12, 3), (12, 4), (12, 5), (12, 6), (12, 7), (12, 8), (12, 24), (12, 25), (12, 26), (12, 27)] δ r442.2 ∧ q_V r442.2 = q_V δ ∧ kr ad [100, 112, 113, 114, 115, 116, 117] δ r442.2) ∧ TK ad a0 δ r442.2 ∧ (0 ≤ (x1).toInt ∧ (x1).toInt ≤ (q_I δ 12 2 a0).toInt → (q_I r442.2 12 2 a0).toInt = 0) ∧ ((x1).toInt < 0 ∨ (q_I δ 12 2 a0).toInt < (x1).toInt → (q_I r442.2 12 2 a0).toInt = (q_I δ 12 2 a0).toInt) from ⟨i444, ⟨kp_w (by decide) u450, v451, kr_w (by decide) v452⟩, ss500, by first | with_reducible assumption | omega, by first | with_reducible assumption | omega⟩)
          · have c506 : r432.1.toInt ≠ (0 : Int) := o_ne h440
            refine ok_bind (k_X12_isMore L hN (a0 := a0) k_a0 i414) (fun r507 hr508 => ?_)
            obtain ⟨i509, ⟨u513, u514, u515, u516⟩, p510, p511, p512⟩ := hr508
            have u517 := kp_t u424 u513
            have v518 : q_V r507.2 = q_V δ := (u514).trans v425
            have v519 := kr_t v426 u516
            have f520 := bo_l p510
            have f521 := cb_12_4 i509 k_a0
            have f522 := ti_b r507.1
            have f523 : (q_I r404 12 3 a0).toInt = (q_I d79 12 3 a0).toInt := ((show (q_I r404 12 3 a0).toInt = (q_I r85.2 12 3 a0).toInt from congrArg Int32.toInt (u421 12 3 a0 (by decide))).trans (show (q_I r85.2 12 3 a0).toInt = (q_I d79 12 3 a0).toInt from congrArg Int32.toInt (u91 12 3 a0 (by decide))))
            have f525 : (q_I r507.2 12 5 a0).toInt = (q_I r404 12 5 a0).toInt := congrArg Int32.toInt (u513 12 5 a0 (by decide))
            have ns524 : NS ad a0 r404 r507.2 := ⟨u516 112 (by decide) (by decide) (by decide), u516 113 (by decide) (by decide) (by decide), u516 114 (by decide) (by decide) (by decide), u516 115 (by decide) (by decide) (by decide), u516 116 (by decide) (by decide) (by decide), u513 12 24 _ (by decide), u513 12 25 _ (by decide), u513 12 26 _ (by decide), u513 12 27 _ (by decide), fun z => by omega⟩
            refine ok_ite (fun h526 => ?_) (fun h526 => ?_)
            · have c527 : r507.1.toInt = (0 : Int) := o_eq h526
              unfold J_X12_thief_106
              refine ok_bind (k_X12_result L hN (a0 := a0) (x1 := (q_I r507.2 12 24 a0)) k_a0 i509) (fun r528 hr529 => ?_)
              obtain ⟨i530, ⟨u532, u533, u534, u535⟩, p531⟩ := hr529
              have u536 := kp_t u517 u532
              have v537 : q_V r528.2 = q_V δ := (u533).trans v518
              have v538 := kr_t v519 u535
              have f539 := ti_b r528.1
              have f541 : (q_I r528.2 12 5 a0).toInt = (q_I r507.2 12 5 a0).toInt := congrArg Int32.toInt (u532 12 5 a0 (by decide))
              have ns540 : NS ad a0 r507.2 r528.2 := ⟨u535 112 (by decide) (by decide) (by decide), u535 113 (by decide) (by decide) (by decide), u535 114 (by decide) (by decide) (by decide), u535 115 (by decide) (by decide) (by decide), u535 116 (by decide) (by decide) (by decide), u532 12 24 _ (by decide), u532 12 25 _ (by decide), u532 12 26 _ (by decide), u532 12 27 _ (by decide), fun z => by omega⟩
              have f542 : (q_I r528.2 12 24 a0).toInt = (q_I r85.2 12 24 a0).toInt := ((show (q_I r528.2 12 24 a0).toInt = (q_I r507.2 12 24 a0).toInt from congrArg Int32.toInt (u532 12 24 a0 (by decide))).trans ((show (q_I r507.2 12 24 a0).toInt = (q_I r404 12 24 a0).toInt from congrArg Int32.toInt (u513 12 24 a0 (by decide))).trans (show (q_I r404 12 24 a0).toInt = (q_I r85.2 12 24 a0).toInt from congrArg Int32.toInt (u421 12 24 a0 (by decide)))))
              refine ok_ite (fun h543 => ?_) (fun h543 => ?_)
              · have c544 : r528.1.toInt = (q_I r528.2 12 24 a0).toInt := o_eq h543
                obtain ⟨b545, o546, k547, n548⟩ := gO_12_28 L k_a0
                obtain rfl := gS_12_28 L k_a0 o546
                refine ok_at o546 ?_
                have t549 := ti_tn (q_I r528.2 12 24 a0)
                refine ok_gd (fun hc550 => ?_) ?_
                · rcases hc550 with hc550 | hc550
                  · have c551 : (q_I r528.2 12 24 a0).toInt < (0 : Int) := o_lt hc550
                    omega
                  · omega
                have f555 : (q_I r528.2 12 25 a0).toInt = (q_I r404 12 25 a0).toInt := ((show (q_I r528.2 12 25 a0).toInt = (q_I r507.2 12 25 a0).toInt from congrArg Int32.toInt (u532 12 25 a0 (by decide))).trans (show (q_I r507.2 12 25 a0).toInt = (q_I r404 12 25 a0).toInt from congrArg Int32.toInt (u513 12 25 a0 (by decide))))
                have f556 := cb_12_25 i414 k_a0
                refine ok_bdv (fun d552 e553 => ?_)
                have i554 : RI ad h.1 δ0 d552 := by rw [e553]; exact cr_112 L i530 (show 0 ≤ (q_I r528.2 12 25 a0).toInt by omega) (show (q_I r528.2 12 25 a0).toInt ≤ 60 by omega)
                have u557 := kp_N u536 (show q_I d552 = q_I r528.2 by rw [e553]; rfl)
                have v558 : q_V d552 = q_V δ := ((show q_V d552 = q_V r528.2 by rw [e553]; rfl)).trans v537
                have v559 := kr_s L (by decide) v538 e553
                have f563 : (q_I d552 12 24 a0).toInt = (q_I r528.2 12 24 a0).toInt := congrArg Int32.toInt (by rw [e553]; rfl)
                first | (have q565 := te_addc (c := 1) (n := 1) rfl (q_I d552 12 24 a0) (by omega) (by omega); obtain ⟨f566, f567, f568⟩ := q565) | (obtain ⟨q565, f566, f567, f568⟩ := ti_addc (c := 1) (n := 1) rfl (q_I d552 12 24 a0))
                refine ok_bdv (fun d560 e561 => ?_)
                have i562 : RI ad h.1 δ0 d560 := by rw [e561]; exact cs_12_24 L i554 k_a0 (show 0 ≤ ((q_I d552 12 24 a0) + (1 : Int32)).toInt by omega) (show ((q_I d552 12 24 a0) + (1 : Int32)).toInt ≤ 4 by omega)
                have u569 := kp_I u557 e561
                have v570 : q_V d560 = q_V δ := ((show q_V d560 = q_V d552 by rw [e561]; rfl)).trans v558
                have v571 := kr_N v559 (show q_R d560 = q_R d552 by rw [e561]; rfl)
                unfold J_X12_thief_146
                have ss572 : NS ad a0 δ d1 := NS.t NS.r (NS.w e2 (by decide))
                have ss573 : NS0 ad a0 δ r10.2 := NS0.t (NS.z ss572) (NS.z ns26)
                have ss574 : NS0 ad a0 δ r37 := NS0.t ss573 ns57
                have ns576 : NS ad a0 d79 r85.2 := NS.t NS.r ns103
                have ns577 : NS ad a0 r404 r507.2 := NS.t NS.r ns524
                have ns578 : NS ad a0 r404 r528.2 := NS.t ns577 ns540
                have f579 : (q_I d73 12 24 a0).toInt = (q_I r37 12 24 a0).toInt := ((show (q_I d73 12 24 a0).toInt = (q_I d67 12 24 a0).toInt from congrArg Int32.toInt (by rw [e74]; exact rI_o (by decide))).trans (show (q_I d67 12 24 a0).toInt = (q_I r37 12 24 a0).toInt from congrArg Int32.toInt (by rw [e68]; exact rI_o (by decide))))
                have f580 : (q_I r528.2 12 26 a0).toInt = (q_I r404 12 26 a0).toInt := ((show (q_I r528.2 12 26 a0).toInt = (q_I r507.2 12 26 a0).toInt from congrArg Int32.toInt (u532 12 26 a0 (by decide))).trans (show (q_I r507.2 12 26 a0).toInt = (q_I r404 12 26 a0).toInt from congrArg Int32.toInt (u513 12 26 a0 (by decide))))
                have ss575 : TK ad a0 δ d560 := TK.good L ss574 e68 e74 e80 ns576 p420 (u423 112 (by decide) (by decide) (by decide)) ns578 (show (0 : Int) = 0 by omega) (show (0 : Int) = 0 by omega) (show (0 : Int) = 0 by omega) (by omega) e553 e561 (show (((q_I r528.2 12 24 a0).toNatClampNeg : Nat) : Int) = (q_I δ 12 24 a0).toInt by omega) (show (q_I r528.2 12 25 a0).toInt = (q_I r528.2 12 25 a0).toInt by omega) (show ((q_I d552 12 24 a0) + (1 : Int32)).toInt = (q_I δ 12 24 a0).toInt + 1 by omega) (show (q_I r528.2 12 5 a0).toInt = -1 by omega) (show (q_I r528.2 12 26 a0).toInt ≤ 500 by omega)
                have f581 := cb_12_2 I k_a0
                have f582 : (q_I d560 12 2 a0).toInt = (q_I r37 12 2 a0).toInt := ((show (q_I d560 12 2 a0).toInt = (q_I d552 12 2 a0).toInt from congrArg Int32.toInt (by rw [e561]; exact rI_o (by decide))).trans ((show (q_I d552 12 2 a0).toInt = (q_I r528.2 12 2 a0).toInt from congrArg Int32.toInt (by rw [e553]; rfl)).trans ((show (q_I r528.2 12 2 a0).toInt = (q_I r507.2 12 2 a0).toInt from congrArg Int32.toInt (u532 12 2 a0 (by decide))).trans ((show (q_I r507.2 12 2 a0).toInt = (q_I r404 12 2 a0).toInt from congrArg Int32.toInt (u513 12 2 a0 (by decide))).trans ((show (q_I r404 12 2 a0).toInt = (q_I r85.2 12 2 a0).toInt from congrArg Int32.toInt (u421 12 2 a0 (by decide))).trans ((show (q_I r85.2 12 2 a0).toInt = (q_I d79 12 2 a0).toInt from congrArg Int32.toInt (u91 12 2 a0 (by decide))).trans ((show (q_I d79 12 2 a0).toInt = (q_I d73 12 2 a0).toInt from congrArg Int32.toInt (by rw [e80]; exact rI_o (by decide))).trans ((show (q_I d73 12 2 a0).toInt = (q_I d67 12 2 a0).toInt from congrArg Int32.toInt (by rw [e74]; exact rI_o (by decide))).trans (show (q_I d67 12 2 a0).toInt = (q_I r37 12 2 a0).toInt from congrArg Int32.toInt (by rw [e68]; exact rI_o (by decide)))))))))))
                exact ok_some (show RI ad h.1 δ0 d560 ∧ (kp [(12, 0), (12, 2), (12, 3), (12, 4), (12, 5), (12, 6), (12, 7), (12, 8), (12, 24), (12, 25), (12, 26), (12, 27)] δ d560 ∧ q_V d560 = q_V δ ∧ kr ad [100, 112, 113, 114, 115, 116, 117] δ d560) ∧ TK ad a0 δ d560 ∧ (0 ≤ (x1).toInt ∧ (x1).toInt ≤ (q_I δ 12 2 a0).toInt → (q_I d560 12 2 a0).toInt = 0) ∧ ((x1).toInt < 0 ∨ (q_I δ 12 2 a0).toInt < (x1).toInt → (q_I d560 12 2 a0).toInt = (q_I δ 12 2 a0).toInt) from ⟨i562, ⟨kp_w (by decide) u569, v570, kr_w (by decide) v571⟩, ss575, by first | with_reducible assumption | omega, by first | with_reducible assumption | omega⟩)
              · have c583 : r528.1.toInt ≠ (q_I r528.2 12 24 a0).toInt := o_ne h543
                unfold J_X12_thief_146
                have ss584 : NS ad a0 δ d1 := NS.t NS.r (NS.w e2 (by decide))
                have ss585 : NS0 ad a0 δ r10.2 := NS0.t (NS.z ss584) (NS.z ns26)
                have ss586 : NS0 ad a0 δ r37 := NS0.t ss585 ns57
                have ns588 : NS ad a0 d79 r85.2 := NS.t NS.r ns103
                have ns589 : NS ad a0 r404 r507.2 := NS.t NS.r ns524
                have ns590 : NS ad a0 r404 r528.2 := NS.t ns589 ns540
                have f591 : (q_I d73 12 24 a0).toInt = (q_I r37 12 24 a0).toInt := ((show (q_I d73 12 24 a0).toInt = (q_I d67 12 24 a0).toInt from congrArg Int32.toInt (by rw [e74]; exact rI_o (by decide))).trans (show (q_I d67 12 24 a0).toInt = (q_I r37 12 24 a0).toInt from congrArg Int32.toInt (by rw [e68]; exact rI_o (by decide))))
                have ss587 : TK ad a0 δ r528.2 := TK.bad L ss586 e68 e74 e80 ns588 p420 (u423 112 (by decide) (by decide) (by decide)) ns590 (show (0 : Int) = 0 by omega) (show (0 : Int) = 0 by omega) (show (0 : Int) = 0 by omega) (by omega)
                have f592 := cb_12_2 I k_a0
                have f593 : (q_I r528.2 12 2 a0).toInt = (q_I r37 12 2 a0).toInt := ((show (q_I r528.2 12 2 a0).toInt = (q_I r507.2 12 2 a0).toInt from congrArg Int32.toInt (u532 12 2 a0 (by decide))).trans ((show (q_I r507.2 12 2 a0).toInt = (q_I r404 12 2 a0).toInt from congrArg Int32.toInt (u513 12 2 a0 (by decide))).trans ((show (q_I r404 12 2 a0).toInt = (q_I r85.2 12 2 a0).toInt from congrArg Int32.toInt (u421 12 2 a0 (by decide))).trans ((show (q_I r85.2 12 2 a0).toInt = (q_I d79 12 2 a0).toInt from congrArg Int32.toInt (u91 12 2 a0 (by decide))).trans ((show (q_I d79 12 2 a0).toInt = (q_I d73 12 2 a0).toInt from congrArg Int32.toInt (by rw [e80]; exact rI_o (by decide))).trans ((show (q_I d73 12 2 a0).toInt = (q_I d67 12 2 a0).toInt from congrArg Int32.toInt (by rw [e74]; exact rI_o (by decide))).trans (show (q_I d67 12 2 a0).toInt = (q_I r37 12 2 a0).toInt from congrArg Int32.toInt (by rw [e68]; exact rI_o (by decide)))))))))
                exact ok_some (show RI ad h.1 δ0 r528.2 ∧ (kp [(12, 0), (12, 2), (12, 3), (12, 4), (12, 5), (12, 6), (12, 7), (12, 8), (12, 24), (12, 25), (12, 26), (12, 27)] δ r528.2 ∧ q_V r528.2 = q_V δ ∧ kr ad [100, 112, 113, 114, 115, 116, 117] δ r528.2) ∧ TK ad a0 δ r528.2 ∧ (0 ≤ (x1).toInt ∧ (x1).toInt ≤ (q_I δ 12 2 a0).toInt → (q_I r528.2 12 2 a0).toInt = 0) ∧ ((x1).toInt < 0 ∨ (q_I δ 12 2 a0).toInt < (x1).toInt → (q_I r528.2 12 2 a0).toInt = (q_I δ 12 2 a0).toInt) from ⟨i530, ⟨kp_w (by decide) u536, v537, kr_w (by decide) v538⟩, ss587, by first | with_reducible assumption | omega, by first | with_reducible assumption | omega⟩)
            · have c594 : r507.1.toInt ≠ (0 : Int) := o_ne h526
              refine ok_bind (k_X12_wrong L hN (a0 := a0) (x1 := (1 : Int32)) (x2 := (q_I r507.2 12 4 a0)) k_a0 (show 0 ≤ ((q_I r507.2 12 4 a0)).toInt by first | with_reducible assumption | omega) (show ((q_I r507.2 12 4 a0)).toInt ≤ 500 by first | with_reducible assumption | omega) (show 0 ≤ (1 : Int) by first | with_reducible assumption | omega) (show (1 : Int) ≤ 4 by first | with_reducible assumption | omega) i509) (fun r595 hr596 => ?_)
              obtain ⟨i597, ⟨u600, u601, u602, u603⟩, p598, p599⟩ := hr596
              have u604 := kp_t u517 u600
              have v605 : q_V r595 = q_V δ := (u601).trans v518
              have v606 := kr_t v519 u603
              have f607 := cb_12_5 i597 k_a0
              have ns608 : NS ad a0 r507.2 r595 := ⟨u603 112 (by decide) (by decide) (by decide), u603 113 (by decide) (by decide) (by decide), u603 114 (by decide) (by decide) (by decide), u603 115 (by decide) (by decide) (by decide), u603 116 (by decide) (by decide) (by decide), u600 12 24 _ (by decide), u600 12 25 _ (by decide), u600 12 26 _ (by decide), u600 12 27 _ (by decide), fun z => by omega⟩
              unfold J_X12_thief_106
              refine ok_bind (k_X12_result L hN (a0 := a0) (x1 := (q_I r595 12 24 a0)) k_a0 i597) (fun r609 hr610 => ?_)
              obtain ⟨i611, ⟨u613, u614, u615, u616⟩, p612⟩ := hr610
              have u617 := kp_t u604 u613
              have v618 : q_V r609.2 = q_V δ := (u614).trans v605
              have v619 := kr_t v606 u616
              have f620 := ti_b r609.1
              have f622 : (q_I r609.2 12 5 a0).toInt = (q_I r595 12 5 a0).toInt := congrArg Int32.toInt (u613 12 5 a0 (by decide))
              have ns621 : NS ad a0 r595 r609.2 := ⟨u616 112 (by decide) (by decide) (by decide), u616 113 (by decide) (by decide) (by decide), u616 114 (by decide) (by decide) (by decide), u616 115 (by decide) (by decide) (by decide), u616 116 (by decide) (by decide) (by decide), u613 12 24 _ (by decide), u613 12 25 _ (by decide), u613 12 26 _ (by decide), u613 12 27 _ (by decide), fun z => by omega⟩
              have f623 : (q_I r609.2 12 24 a0).toInt = (q_I r85.2 12 24 a0).toInt := ((show (q_I r609.2 12 24 a0).toInt = (q_I r595 12 24 a0).toInt from congrArg Int32.toInt (u613 12 24 a0 (by decide))).trans ((show (q_I r595 12 24 a0).toInt = (q_I r507.2 12 24 a0).toInt from congrArg Int32.toInt (u600 12 24 a0 (by decide))).trans ((show (q_I r507.2 12 24 a0).toInt = (q_I r404 12 24 a0).toInt from congrArg Int32.toInt (u513 12 24 a0 (by decide))).trans (show (q_I r404 12 24 a0).toInt = (q_I r85.2 12 24 a0).toInt from congrArg Int32.toInt (u421 12 24 a0 (by decide))))))
              refine ok_ite (fun h624 => ?_) (fun h624 => ?_)
              · have c625 : r609.1.toInt = (q_I r609.2 12 24 a0).toInt := o_eq h624
                obtain ⟨b626, o627, k628, n629⟩ := gO_12_28 L k_a0
                obtain rfl := gS_12_28 L k_a0 o627
                refine ok_at o627 ?_
                have t630 := ti_tn (q_I r609.2 12 24 a0)
                refine ok_gd (fun hc631 => ?_) ?_
                · rcases hc631 with hc631 | hc631
                  · have c632 : (q_I r609.2 12 24 a0).toInt < (0 : Int) := o_lt hc631
                    omega
                  · omega
                have f636 : (q_I r609.2 12 25 a0).toInt = (q_I r404 12 25 a0).toInt := ((show (q_I r609.2 12 25 a0).toInt = (q_I r595 12 25 a0).toInt from congrArg Int32.toInt (u613 12 25 a0 (by decide))).trans ((show (q_I r595 12 25 a0).toInt = (q_I r507.2 12 25 a0).toInt from congrArg Int32.toInt (u600 12 25 a0 (by decide))).trans (show (q_I r507.2 12 25 a0).toInt = (q_I r404 12 25 a0).toInt from congrArg Int32.toInt (u513 12 25 a0 (by decide)))))
                have f637 := cb_12_25 i414 k_a0
                refine ok_bdv (fun d633 e634 => ?_)
                have i635 : RI ad h.1 δ0 d633 := by rw [e634]; exact cr_112 L i611 (show 0 ≤ (q_I r609.2 12 25 a0).toInt by omega) (show (q_I r609.2 12 25 a0).toInt ≤ 60 by omega)
                have u638 := kp_N u617 (show q_I d633 = q_I r609.2 by rw [e634]; rfl)
                have v639 : q_V d633 = q_V δ := ((show q_V d633 = q_V r609.2 by rw [e634]; rfl)).trans v618
                have v640 := kr_s L (by decide) v619 e634
                have f644 : (q_I d633 12 24 a0).toInt = (q_I r609.2 12 24 a0).toInt := congrArg Int32.toInt (by rw [e634]; rfl)
                first | (have q646 := te_addc (c := 1) (n := 1) rfl (q_I d633 12 24 a0) (by omega) (by omega); obtain ⟨f647, f648, f649⟩ := q646) | (obtain ⟨q646, f647, f648, f649⟩ := ti_addc (c := 1) (n := 1) rfl (q_I d633 12 24 a0))
                refine ok_bdv (fun d641 e642 => ?_)
                have i643 : RI ad h.1 δ0 d641 := by rw [e642]; exact cs_12_24 L i635 k_a0 (show 0 ≤ ((q_I d633 12 24 a0) + (1 : Int32)).toInt by omega) (show ((q_I d633 12 24 a0) + (1 : Int32)).toInt ≤ 4 by omega)
                have u650 := kp_I u638 e642
                have v651 : q_V d641 = q_V δ := ((show q_V d641 = q_V d633 by rw [e642]; rfl)).trans v639
                have v652 := kr_N v640 (show q_R d641 = q_R d633 by rw [e642]; rfl)
                unfold J_X12_thief_146
                have ss653 : NS ad a0 δ d1 := NS.t NS.r (NS.w e2 (by decide))
                have ss654 : NS0 ad a0 δ r10.2 := NS0.t (NS.z ss653) (NS.z ns26)
                have ss655 : NS0 ad a0 δ r37 := NS0.t ss654 ns57
                have ns657 : NS ad a0 d79 r85.2 := NS.t NS.r ns103
                have ns658 : NS ad a0 r404 r507.2 := NS.t NS.r ns524
                have ns659 : NS ad a0 r404 r595 := NS.t ns658 ns608
                have ns660 : NS ad a0 r404 r609.2 := NS.t ns659 ns621
                have f661 : (q_I d73 12 24 a0).toInt = (q_I r37 12 24 a0).toInt := ((show (q_I d73 12 24 a0).toInt = (q_I d67 12 24 a0).toInt from congrArg Int32.toInt (by rw [e74]; exact rI_o (by decide))).trans (show (q_I d67 12 24 a0).toInt = (q_I r37 12 24 a0).toInt from congrArg Int32.toInt (by rw [e68]; exact rI_o (by decide))))
                have f662 : (q_I r609.2 12 26 a0).toInt = (q_I r404 12 26 a0).toInt := ((show (q_I r609.2 12 26 a0).toInt = (q_I r595 12 26 a0).toInt from congrArg Int32.toInt (u613 12 26 a0 (by decide))).trans ((show (q_I r595 12 26 a0).toInt = (q_I r507.2 12 26 a0).toInt from congrArg Int32.toInt (u600 12 26 a0 (by decide))).trans (show (q_I r507.2 12 26 a0).toInt = (q_I r404 12 26 a0).toInt from congrArg Int32.toInt (u513 12 26 a0 (by decide)))))
                have ss656 : TK ad a0 δ d641 := TK.good L ss655 e68 e74 e80 ns657 p420 (u423 112 (by decide) (by decide) (by decide)) ns660 (show (0 : Int) = 0 by omega) (show (0 : Int) = 0 by omega) (show (0 : Int) = 0 by omega) (by omega) e634 e642 (show (((q_I r609.2 12 24 a0).toNatClampNeg : Nat) : Int) = (q_I δ 12 24 a0).toInt by omega) (show (q_I r609.2 12 25 a0).toInt = (q_I r609.2 12 25 a0).toInt by omega) (show ((q_I d633 12 24 a0) + (1 : Int32)).toInt = (q_I δ 12 24 a0).toInt + 1 by omega) (show (q_I r609.2 12 5 a0).toInt = -1 by omega) (show (q_I r609.2 12 26 a0).toInt ≤ 500 by omega)
                have f663 := cb_12_2 I k_a0
                have f664 : (q_I d641 12 2 a0).toInt = (q_I r37 12 2 a0).toInt := ((show (q_I d641 12 2 a0).toInt = (q_I d633 12 2 a0).toInt from congrArg Int32.toInt (by rw [e642]; exact rI_o (by decide))).trans ((show (q_I d633 12 2 a0).toInt = (q_I r609.2 12 2 a0).toInt from congrArg Int32.toInt (by rw [e634]; rfl)).trans ((show (q_I r609.2 12 2 a0).toInt = (q_I r595 12 2 a0).toInt from congrArg Int32.toInt (u613 12 2 a0 (by decide))).trans ((show (q_I r595 12 2 a0).toInt = (q_I r507.2 12 2 a0).toInt from congrArg Int32.toInt (u600 12 2 a0 (by decide))).trans ((show (q_I r507.2 12 2 a0).toInt = (q_I r404 12 2 a0).toInt from congrArg Int32.toInt (u513 12 2 a0 (by decide))).trans ((show (q_I r404 12 2 a0).toInt = (q_I r85.2 12 2 a0).toInt from congrArg Int32.toInt (u421 12 2 a0 (by decide))).trans ((show (q_I r85.2 12 2 a0).toInt = (q_I d79 12 2 a0).toInt from congrArg Int32.toInt (u91 12 2 a0 (by decide))).trans ((show (q_I d79 12 2 a0).toInt = (q_I d73 12 2 a0).toInt from congrArg Int32.toInt (by rw [e80]; exact rI_o (by decide))).trans ((show (q_I d73 12 2 a0).toInt = (q_I d67 12 2 a0).toInt from congrArg Int32.toInt (by rw [e74]; exact rI_o (by decide))).trans (show (q_I d67 12 2 a0).toInt = (q_I r37 12 2 a0).toInt from congrArg Int32.toInt (by rw [e68]; exact rI_o (by decide))))))))))))
                exact ok_some (show RI ad h.1 δ0 d641 ∧ (kp [(12, 0), (12, 2), (12, 3), (12, 4), (12, 5), (12, 6), (12, 7), (12, 8), (12, 24), (12, 25), (12, 26), (12, 27)] δ d641 ∧ q_V d641 = q_V δ ∧ kr ad [100, 112, 113, 114, 115, 116, 117] δ d641) ∧ TK ad a0 δ d641 ∧ (0 ≤ (x1).toInt ∧ (x1).toInt ≤ (q_I δ 12 2 a0).toInt → (q_I d641 12 2 a0).toInt = 0) ∧ ((x1).toInt < 0 ∨ (q_I δ 12 2 a0).toInt < (x1).toInt → (q_I d641 12 2 a0).toInt = (q_I δ 12 2 a0).toInt) from ⟨i643, ⟨kp_w (by decide) u650, v651, kr_w (by decide) v652⟩, ss656, by first | with_reducible assumption | omega, by first | with_reducible assumption | omega⟩)
              · have c665 : r609.1.toInt ≠ (q_I r609.2 12 24 a0).toInt := o_ne h624
                unfold J_X12_thief_146
                have ss666 : NS ad a0 δ d1 := NS.t NS.r (NS.w e2 (by decide))
                have ss667 : NS0 ad a0 δ r10.2 := NS0.t (NS.z ss666) (NS.z ns26)
                have ss668 : NS0 ad a0 δ r37 := NS0.t ss667 ns57
                have ns670 : NS ad a0 d79 r85.2 := NS.t NS.r ns103
                have ns671 : NS ad a0 r404 r507.2 := NS.t NS.r ns524
                have ns672 : NS ad a0 r404 r595 := NS.t ns671 ns608
                have ns673 : NS ad a0 r404 r609.2 := NS.t ns672 ns621
                have f674 : (q_I d73 12 24 a0).toInt = (q_I r37 12 24 a0).toInt := ((show (q_I d73 12 24 a0).toInt = (q_I d67 12 24 a0).toInt from congrArg Int32.toInt (by rw [e74]; exact rI_o (by decide))).trans (show (q_I d67 12 24 a0).toInt = (q_I r37 12 24 a0).toInt from congrArg Int32.toInt (by rw [e68]; exact rI_o (by decide))))
                have ss669 : TK ad a0 δ r609.2 := TK.bad L ss668 e68 e74 e80 ns670 p420 (u423 112 (by decide) (by decide) (by decide)) ns673 (show (0 : Int) = 0 by omega) (show (0 : Int) = 0 by omega) (show (0 : Int) = 0 by omega) (by omega)
                have f675 := cb_12_2 I k_a0
                have f676 : (q_I r609.2 12 2 a0).toInt = (q_I r37 12 2 a0).toInt := ((show (q_I r609.2 12 2 a0).toInt = (q_I r595 12 2 a0).toInt from congrArg Int32.toInt (u613 12 2 a0 (by decide))).trans ((show (q_I r595 12 2 a0).toInt = (q_I r507.2 12 2 a0).toInt from congrArg Int32.toInt (u600 12 2 a0 (by decide))).trans ((show (q_I r507.2 12 2 a0).toInt = (q_I r404 12 2 a0).toInt from congrArg Int32.toInt (u513 12 2 a0 (by decide))).trans ((show (q_I r404 12 2 a0).toInt = (q_I r85.2 12 2 a0).toInt from congrArg Int32.toInt (u421 12 2 a0 (by decide))).trans ((show (q_I r85.2 12 2 a0).toInt = (q_I d79 12 2 a0).toInt from congrArg Int32.toInt (u91 12 2 a0 (by decide))).trans ((show (q_I d79 12 2 a0).toInt = (q_I d73 12 2 a0).toInt from congrArg Int32.toInt (by rw [e80]; exact rI_o (by decide))).trans ((show (q_I d73 12 2 a0).toInt = (q_I d67 12 2 a0).toInt from congrArg Int32.toInt (by rw [e74]; exact rI_o (by decide))).trans (show (q_I d67 12 2 a0).toInt = (q_I r37 12 2 a0).toInt from congrArg Int32.toInt (by rw [e68]; exact rI_o (by decide))))))))))
                exact ok_some (show RI ad h.1 δ0 r609.2 ∧ (kp [(12, 0), (12, 2), (12, 3), (12, 4), (12, 5), (12, 6), (12, 7), (12, 8), (12, 24), (12, 25), (12, 26), (12, 27)] δ r609.2 ∧ q_V r609.2 = q_V δ ∧ kr ad [100, 112, 113, 114, 115, 116, 117] δ r609.2) ∧ TK ad a0 δ r609.2 ∧ (0 ≤ (x1).toInt ∧ (x1).toInt ≤ (q_I δ 12 2 a0).toInt → (q_I r609.2 12 2 a0).toInt = 0) ∧ ((x1).toInt < 0 ∨ (q_I δ 12 2 a0).toInt < (x1).toInt → (q_I r609.2 12 2 a0).toInt = (q_I δ 12 2 a0).toInt) from ⟨i611, ⟨kp_w (by decide) u617, v618, kr_w (by decide) v619⟩, ss669, by first | with_reducible assumption | omega, by first | with_reducible assumption | omega⟩)
  · have c677 : (0 : Int) ≤ x1.toInt := o_nlt h8
    have f678 : (q_I d1 12 2 a0).toInt = (q_I δ 12 2 a0).toInt := congrArg Int32.toInt (by rw [e2]; exact rI_o (by decide))
    have f679 := cb_12_2 I k_a0
    refine ok_ite (fun h680 => ?_) (fun h680 => ?_)
    · have c681 : (q_I d1 12 2 a0).toInt < x1.toInt := o_lt h680
      unfold J_X12_thief_22
      unfold J_X12_thief_23
      refine ok_bind (k_X12_may L hN (a0 := a0) (x1 := (0 : Int32)) (x2 := (1 : Int32)) (x3 := (2 : Int32)) k_a0 (show (1 : Int) ≠ 0 by first | with_reducible assumption | omega) (show 0 ≤ (2 : Int) by first | with_reducible assumption | omega) (show (2 : Int) ≤ 2 by first | with_reducible assumption | omega) i3) (fun r682 hr683 => ?_)
      obtain ⟨i684, ⟨u688, u689, u690⟩, p685, p686, p687⟩ := hr683
      have u691 := kp_t u4 u688
      have v692 : q_V r682.2 = q_V δ := (u689).trans v5
      have v693 := kr_t v6 u690
      have f694 := bo_l p685
      have f695 := ti_b r682.1
      replace p686 : ((r682.1).toInt = 1 → (0 : Int) ≠ 0) := p686
      have f696 := ti_b (q_I d1 12 0 a0)
      have f697 : (q_I d1 12 0 a0).toInt = (0 : Int) := congrArg Int32.toInt (show q_I d1 12 0 a0 = (0 : Int32) by rw [e2]; exact rI_s)
      replace p687 : ((q_I d1 12 0 a0).toInt = 0 → (r682.1).toInt = 0 → (0 : Int) = 0) := p687
      have f699 : (q_I r682.2 12 5 a0).toInt = (q_I δ 12 5 a0).toInt := ((show (q_I r682.2 12 5 a0).toInt = (q_I d1 12 5 a0).toInt from congrArg Int32.toInt (u688 12 5 a0 (by decide))).trans (show (q_I d1 12 5 a0).toInt = (q_I δ 12 5 a0).toInt from congrArg Int32.toInt (by rw [e2]; exact rI_o (by decide))))
      have f700 := cb_12_5 I k_a0
      have f701 : (q_I d1 12 5 a0).toInt = (q_I δ 12 5 a0).toInt := congrArg Int32.toInt (by rw [e2]; exact rI_o (by decide))
      have ns698 : NS ad a0 d1 r682.2 := ⟨u690 112 (by decide) (by decide) (by decide), u690 113 (by decide) (by decide) (by decide), u690 114 (by decide) (by decide) (by decide), u690 115 (by decide) (by decide) (by decide), u690 116 (by decide) (by decide) (by decide), u688 12 24 _ (by decide), u688 12 25 _ (by decide), u688 12 26 _ (by decide), u688 12 27 _ (by decide), fun z => by omega⟩
      refine ok_ite (fun h702 => ?_) (fun h702 => ?_)
      · have c703 : r682.1.toInt = (0 : Int) := o_eq h702
        have ss704 : NS ad a0 δ d1 := NS.t NS.r (NS.w e2 (by decide))
        have ss705 : NS0 ad a0 δ r682.2 := NS0.t (NS.z ss704) (NS.z ns698)
        have f706 : (q_I r682.2 12 2 a0).toInt = (q_I d1 12 2 a0).toInt := congrArg Int32.toInt (u688 12 2 a0 (by decide))
        exact ok_some (show RI ad h.1 δ0 r682.2 ∧ (kp [(12, 0), (12, 2), (12, 3), (12, 4), (12, 5), (12, 6), (12, 7), (12, 8), (12, 24), (12, 25), (12, 26), (12, 27)] δ r682.2 ∧ q_V r682.2 = q_V δ ∧ kr ad [100, 112, 113, 114, 115, 116, 117] δ r682.2) ∧ TK ad a0 δ r682.2 ∧ (0 ≤ (x1).toInt ∧ (x1).toInt ≤ (q_I δ 12 2 a0).toInt → (q_I r682.2 12 2 a0).toInt = 0) ∧ ((x1).toInt < 0 ∨ (q_I δ 12 2 a0).toInt < (x1).toInt → (q_I r682.2 12 2 a0).toInt = (q_I δ 12 2 a0).toInt) from ⟨i684, ⟨kp_w (by decide) u691, v692, kr_w (by decide) v693⟩, TK.n ss705, by first | with_reducible assumption | omega, by first | with_reducible assumption | omega⟩)
      · have c707 : r682.1.toInt ≠ (0 : Int) := o_ne h702
        refine ok_bind (k_X12_begins L hN (a0 := a0) (x1 := x1) k_a0 (show 0 ≤ (x1).toInt by first | with_reducible assumption | omega) (show (x1).toInt ≤ 500 by first | with_reducible assumption | omega) i684) (fun r708 hr709 => ?_)
        obtain ⟨i710, ⟨u716, u717, u718, u719⟩, p711, p712, p713, p714, p715⟩ := hr709
        have u720 := kp_t u691 u716
        have v721 : q_V r708 = q_V δ := (u717).trans v692
        have v722 := kr_t v693 u719
        have f723 := cb_12_2 i710 k_a0
        have f724 := cb_12_4 i710 k_a0
        have f725 := cb_12_3 i710 k_a0
        have f726 := cb_12_5 i710 k_a0
        have f727 := ti_b (q_I r708 12 7 a0)
        have ns728 : NS0 ad a0 r682.2 r708 := ⟨u719 112 (by decide) (by decide) (by decide), u719 113 (by decide) (by decide) (by decide), u719 114 (by decide) (by decide) (by decide), u719 115 (by decide) (by decide) (by decide), u719 116 (by decide) (by decide) (by decide), u716 12 24 _ (by decide)⟩
        have f729 : (q_I r708 12 24 a0).toInt = (q_I δ 12 24 a0).toInt := ((show (q_I r708 12 24 a0).toInt = (q_I r682.2 12 24 a0).toInt from congrArg Int32.toInt (u716 12 24 a0 (by decide))).trans ((show (q_I r682.2 12 24 a0).toInt = (q_I d1 12 24 a0).toInt from congrArg Int32.toInt (u688 12 24 a0 (by decide))).trans (show (q_I d1 12 24 a0).toInt = (q_I δ 12 24 a0).toInt from congrArg Int32.toInt (by rw [e2]; exact rI_o (by decide)))))
        have f730 := cb_12_24 I k_a0
        refine ok_ite (fun h731 => ?_) (fun h731 => ?_)
        · have c732 : (q_I r708 12 24 a0).toInt = (4 : Int) := o_eq h731
          have ss733 : NS ad a0 δ d1 := NS.t NS.r (NS.w e2 (by decide))
          have ss734 : NS0 ad a0 δ r682.2 := NS0.t (NS.z ss733) (NS.z ns698)
          have ss735 : NS0 ad a0 δ r708 := NS0.t ss734 ns728
          exact ok_some (show RI ad h.1 δ0 r708 ∧ (kp [(12, 0), (12, 2), (12, 3), (12, 4), (12, 5), (12, 6), (12, 7), (12, 8), (12, 24), (12, 25), (12, 26), (12, 27)] δ r708 ∧ q_V r708 = q_V δ ∧ kr ad [100, 112, 113, 114, 115, 116, 117] δ r708) ∧ TK ad a0 δ r708 ∧ (0 ≤ (x1).toInt ∧ (x1).toInt ≤ (q_I δ 12 2 a0).toInt → (q_I r708 12 2 a0).toInt = 0) ∧ ((x1).toInt < 0 ∨ (q_I δ 12 2 a0).toInt < (x1).toInt → (q_I r708 12 2 a0).toInt = (q_I δ 12 2 a0).toInt) from ⟨i710, ⟨kp_w (by decide) u720, v721, kr_w (by decide) v722⟩, TK.n ss735, by first | with_reducible assumption | omega, by first | with_reducible assumption | omega⟩)
        · have c736 : (q_I r708 12 24 a0).toInt ≠ (4 : Int) := o_ne h731
          refine ok_bdv (fun d737 e738 => ?_)
          have i739 : RI ad h.1 δ0 d737 := by rw [e738]; exact cs_12_25 L i710 k_a0 (show 0 ≤ (0 : Int) by omega) (show (0 : Int) ≤ 60 by omega)
          have u740 := kp_I u720 e738
          have v741 : q_V d737 = q_V δ := ((show q_V d737 = q_V r708 by rw [e738]; rfl)).trans v721
          have v742 := kr_N v722 (show q_R d737 = q_R r708 by rw [e738]; rfl)
          refine ok_bdv (fun d743 e744 => ?_)
          have i745 : RI ad h.1 δ0 d743 := by rw [e744]; exact cs_12_26 L i739 k_a0 (show 0 ≤ (0 : Int) by omega) (show (0 : Int) ≤ 500 by omega)
          have u746 := kp_I u740 e744
          have v747 : q_V d743 = q_V δ := ((show q_V d743 = q_V d737 by rw [e744]; rfl)).trans v741
          have v748 := kr_N v742 (show q_R d743 = q_R d737 by rw [e744]; rfl)
          refine ok_bdv (fun d749 e750 => ?_)
          have i751 : RI ad h.1 δ0 d749 := by rw [e750]; exact cs_12_27 L i745 k_a0 (show 0 ≤ (0 : Int) by omega) (show (0 : Int) ≤ 3 by omega)
          have u752 := kp_I u746 e750
          have v753 : q_V d749 = q_V δ := ((show q_V d749 = q_V d743 by rw [e750]; rfl)).trans v747
          have v754 := kr_N v748 (show q_R d749 = q_R d743 by rw [e750]; rfl)
          refine ok_bind (k_X12_isMore L hN (a0 := a0) k_a0 i751) (fun r755 hr756 => ?_)
          obtain ⟨i757, ⟨u761, u762, u763, u764⟩, p758, p759, p760⟩ := hr756
          have u765 := kp_t u752 u761
          have v766 : q_V r755.2 = q_V δ := (u762).trans v753
          have v767 := kr_t v754 u764
          have f768 := bo_l p758
          have f769 : (q_I d749 12 4 a0).toInt = (q_I r708 12 4 a0).toInt := ((show (q_I d749 12 4 a0).toInt = (q_I d743 12 4 a0).toInt from congrArg Int32.toInt (by rw [e750]; exact rI_o (by decide))).trans ((show (q_I d743 12 4 a0).toInt = (q_I d737 12 4 a0).toInt from congrArg Int32.toInt (by rw [e744]; exact rI_o (by decide))).trans (show (q_I d737 12 4 a0).toInt = (q_I r708 12 4 a0).toInt from congrArg Int32.toInt (by rw [e738]; exact rI_o (by decide)))))
          have f770 := cb_12_4 i757 k_a0
          have f771 := ti_b r755.1
          have f772 : (q_I d749 12 3 a0).toInt = (q_I r708 12 3 a0).toInt := ((show (q_I d749 12 3 a0).toInt = (q_I d743 12 3 a0).toInt from congrArg Int32.toInt (by rw [e750]; exact rI_o (by decide))).trans ((show (q_I d743 12 3 a0).toInt = (q_I d737 12 3 a0).toInt from congrArg Int32.toInt (by rw [e744]; exact rI_o (by decide))).trans (show (q_I d737 12 3 a0).toInt = (q_I r708 12 3 a0).toInt from congrArg Int32.toInt (by rw [e738]; exact rI_o (by decide)))))
          have f774 : (q_I r755.2 12 5 a0).toInt = (q_I r708 12 5 a0).toInt := ((show (q_I r755.2 12 5 a0).toInt = (q_I d749 12 5 a0).toInt from congrArg Int32.toInt (u761 12 5 a0 (by decide))).trans ((show (q_I d749 12 5 a0).toInt = (q_I d743 12 5 a0).toInt from congrArg Int32.toInt (by rw [e750]; exact rI_o (by decide))).trans ((show (q_I d743 12 5 a0).toInt = (q_I d737 12 5 a0).toInt from congrArg Int32.toInt (by rw [e744]; exact rI_o (by decide))).trans (show (q_I d737 12 5 a0).toInt = (q_I r708 12 5 a0).toInt from congrArg Int32.toInt (by rw [e738]; exact rI_o (by decide))))))
          have f775 : (q_I d749 12 5 a0).toInt = (q_I r708 12 5 a0).toInt := ((show (q_I d749 12 5 a0).toInt = (q_I d743 12 5 a0).toInt from congrArg Int32.toInt (by rw [e750]; exact rI_o (by decide))).trans ((show (q_I d743 12 5 a0).toInt = (q_I d737 12 5 a0).toInt from congrArg Int32.toInt (by rw [e744]; exact rI_o (by decide))).trans (show (q_I d737 12 5 a0).toInt = (q_I r708 12 5 a0).toInt from congrArg Int32.toInt (by rw [e738]; exact rI_o (by decide)))))
          have ns773 : NS ad a0 d749 r755.2 := ⟨u764 112 (by decide) (by decide) (by decide), u764 113 (by decide) (by decide) (by decide), u764 114 (by decide) (by decide) (by decide), u764 115 (by decide) (by decide) (by decide), u764 116 (by decide) (by decide) (by decide), u761 12 24 _ (by decide), u761 12 25 _ (by decide), u761 12 26 _ (by decide), u761 12 27 _ (by decide), fun z => by omega⟩
          refine ok_ite (fun h776 => ?_) (fun h776 => ?_)
          · have c777 : r755.1.toInt = (0 : Int) := o_eq h776
            have f780 : (q_I r755.2 12 3 a0).toInt = (q_I d749 12 3 a0).toInt := congrArg Int32.toInt (u761 12 3 a0 (by decide))
            refine ok_bind (k_X12_wrong L hN (a0 := a0) (x1 := (1 : Int32)) (x2 := (q_I r755.2 12 3 a0)) k_a0 (show 0 ≤ ((q_I r755.2 12 3 a0)).toInt by first | with_reducible assumption | omega) (show ((q_I r755.2 12 3 a0)).toInt ≤ 500 by first | with_reducible assumption | omega) (show 0 ≤ (1 : Int) by first | with_reducible assumption | omega) (show (1 : Int) ≤ 4 by first | with_reducible assumption | omega) i757) (fun r778 hr779 => ?_)
            obtain ⟨i781, ⟨u784, u785, u786, u787⟩, p782, p783⟩ := hr779
            have u788 := kp_t u765 u784
            have v789 : q_V r778 = q_V δ := (u785).trans v766
            have v790 := kr_t v767 u787
            have f791 := cb_12_5 i781 k_a0
            have ns792 : NS ad a0 r755.2 r778 := ⟨u787 112 (by decide) (by decide) (by decide), u787 113 (by decide) (by decide) (by decide), u787 114 (by decide) (by decide) (by decide), u787 115 (by decide) (by decide) (by decide), u787 116 (by decide) (by decide) (by decide), u784 12 24 _ (by decide), u784 12 25 _ (by decide), u784 12 26 _ (by decide), u784 12 27 _ (by decide), fun z => by omega⟩
            unfold J_X12_thief_79
            have f795 : (q_I r778 12 24 a0).toInt = (q_I r708 12 24 a0).toInt := ((show (q_I r778 12 24 a0).toInt = (q_I r755.2 12 24 a0).toInt from congrArg Int32.toInt (u784 12 24 a0 (by decide))).trans ((show (q_I r755.2 12 24 a0).toInt = (q_I d749 12 24 a0).toInt from congrArg Int32.toInt (u761 12 24 a0 (by decide))).trans ((show (q_I d749 12 24 a0).toInt = (q_I d743 12 24 a0).toInt from congrArg Int32.toInt (by rw [e750]; exact rI_o (by decide))).trans ((show (q_I d743 12 24 a0).toInt = (q_I d737 12 24 a0).toInt from congrArg Int32.toInt (by rw [e744]; exact rI_o (by decide))).trans (show (q_I d737 12 24 a0).toInt = (q_I r708 12 24 a0).toInt from congrArg Int32.toInt (by rw [e738]; exact rI_o (by decide)))))))
            have f796 : (q_I r778 12 26 a0).toInt = (q_I d743 12 26 a0).toInt := ((show (q_I r778 12 26 a0).toInt = (q_I r755.2 12 26 a0).toInt from congrArg Int32.toInt (u784 12 26 a0 (by decide))).trans ((show (q_I r755.2 12 26 a0).toInt = (q_I d749 12 26 a0).toInt from congrArg Int32.toInt (u761 12 26 a0 (by decide))).trans (show (q_I d749 12 26 a0).toInt = (q_I d743 12 26 a0).toInt from congrArg Int32.toInt (by rw [e750]; exact rI_o (by decide)))))
            have f797 := cb_12_26 i745 k_a0
            have f798 : (q_I d743 12 26 a0).toInt = (0 : Int) := congrArg Int32.toInt (show q_I d743 12 26 a0 = (0 : Int32) by rw [e744]; exact rI_s)
            have f799 : (q_I r778 12 4 a0).toInt = (q_I r755.2 12 4 a0).toInt := congrArg Int32.toInt (u784 12 4 a0 (by decide))
            have f800 : (q_I r778 12 7 a0).toInt = (q_I r708 12 7 a0).toInt := ((show (q_I r778 12 7 a0).toInt = (q_I r755.2 12 7 a0).toInt from congrArg Int32.toInt (u784 12 7 a0 (by decide))).trans ((show (q_I r755.2 12 7 a0).toInt = (q_I d749 12 7 a0).toInt from congrArg Int32.toInt (u761 12 7 a0 (by decide))).trans ((show (q_I d749 12 7 a0).toInt = (q_I d743 12 7 a0).toInt from congrArg Int32.toInt (by rw [e750]; exact rI_o (by decide))).trans ((show (q_I d743 12 7 a0).toInt = (q_I d737 12 7 a0).toInt from congrArg Int32.toInt (by rw [e744]; exact rI_o (by decide))).trans (show (q_I d737 12 7 a0).toInt = (q_I r708 12 7 a0).toInt from congrArg Int32.toInt (by rw [e738]; exact rI_o (by decide)))))))
            have f801 : (q_I r778 12 27 a0).toInt = (q_I d749 12 27 a0).toInt := ((show (q_I r778 12 27 a0).toInt = (q_I r755.2 12 27 a0).toInt from congrArg Int32.toInt (u784 12 27 a0 (by decide))).trans (show (q_I r755.2 12 27 a0).toInt = (q_I d749 12 27 a0).toInt from congrArg Int32.toInt (u761 12 27 a0 (by decide))))
            have f802 := cb_12_27 i751 k_a0
            have f803 : (q_I d749 12 27 a0).toInt = (0 : Int) := congrArg Int32.toInt (show q_I d749 12 27 a0 = (0 : Int32) by rw [e750]; exact rI_s)
            refine ok_bind (k_X12_readSteps L hN (a0 := a0) k_a0 (show (q_I r778 12 24 a0).toInt ≤ 3 by first | with_reducible assumption | omega) (show (q_I r778 12 26 a0).toInt ≤ (q_I r778 12 4 a0).toInt by first | with_reducible assumption | omega) (show (q_I r778 12 7 a0).toInt = 0 by first | with_reducible assumption | omega) (show 4 - (q_I r778 12 27 a0).toInt < 20 by first | with_reducible assumption | omega) i781) (fun r793 hr794 => ?_)
            obtain ⟨i804, ⟨u811, u812, u813⟩, p805, p806, p807, p808, p809, p810⟩ := hr794
            have u814 := kp_t u788 u811
            have v815 : q_V r793 = q_V δ := (u812).trans v789
            have v816 := kr_t v790 u813
            have f817 := cb_12_4 i804 k_a0
            have f818 := cb_12_5 i804 k_a0
            have f819 := ti_b (q_I r793 12 7 a0)
            have f820 := cb_12_27 i804 k_a0
            have f821 := cb_12_26 i804 k_a0
            refine ok_bind (k_X12_fine L hN (a0 := a0) k_a0 i804) (fun r822 hr823 => ?_)
            obtain ⟨i824, p825, p826, p827⟩ := hr823
            try rw [i824]
            have f828 := bo_l p825
            have f829 := ti_b r822.1
            refine ok_ite (fun h830 => ?_) (fun h830 => ?_)
            · have c831 : r822.1.toInt = (0 : Int) := o_eq h830
              unfold J_X12_thief_106
              refine ok_bind (k_X12_result L hN (a0 := a0) (x1 := (q_I r793 12 24 a0)) k_a0 i804) (fun r832 hr833 => ?_)
              obtain ⟨i834, ⟨u836, u837, u838, u839⟩, p835⟩ := hr833
              have u840 := kp_t u814 u836
              have v841 : q_V r832.2 = q_V δ := (u837).trans v815
              have v842 := kr_t v816 u839
              have f843 := ti_b r832.1
              have f845 : (q_I r832.2 12 5 a0).toInt = (q_I r793 12 5 a0).toInt := congrArg Int32.toInt (u836 12 5 a0 (by decide))
              have ns844 : NS ad a0 r793 r832.2 := ⟨u839 112 (by decide) (by decide) (by decide), u839 113 (by decide) (by decide) (by decide), u839 114 (by decide) (by decide) (by decide), u839 115 (by decide) (by decide) (by decide), u839 116 (by decide) (by decide) (by decide), u836 12 24 _ (by decide), u836 12 25 _ (by decide), u836 12 26 _ (by decide), u836 12 27 _ (by decide), fun z => by omega⟩
              have f846 : (q_I r832.2 12 24 a0).toInt = (q_I r778 12 24 a0).toInt := ((show (q_I r832.2 12 24 a0).toInt = (q_I r793 12 24 a0).toInt from congrArg Int32.toInt (u836 12 24 a0 (by decide))).trans (show (q_I r793 12 24 a0).toInt = (q_I r778 12 24 a0).toInt from congrArg Int32.toInt (u811 12 24 a0 (by decide))))
              refine ok_ite (fun h847 => ?_) (fun h847 => ?_)
              · have c848 : r832.1.toInt = (q_I r832.2 12 24 a0).toInt := o_eq h847
                obtain ⟨b849, o850, k851, n852⟩ := gO_12_28 L k_a0
                obtain rfl := gS_12_28 L k_a0 o850
                refine ok_at o850 ?_
                have t853 := ti_tn (q_I r832.2 12 24 a0)
                refine ok_gd (fun hc854 => ?_) ?_
                · rcases hc854 with hc854 | hc854
                  · have c855 : (q_I r832.2 12 24 a0).toInt < (0 : Int) := o_lt hc854
                    omega
                  · omega
                have f859 : (q_I r832.2 12 25 a0).toInt = (q_I r793 12 25 a0).toInt := congrArg Int32.toInt (u836 12 25 a0 (by decide))
                have f860 := cb_12_25 i804 k_a0
                refine ok_bdv (fun d856 e857 => ?_)
                have i858 : RI ad h.1 δ0 d856 := by rw [e857]; exact cr_112 L i834 (show 0 ≤ (q_I r832.2 12 25 a0).toInt by omega) (show (q_I r832.2 12 25 a0).toInt ≤ 60 by omega)
                have u861 := kp_N u840 (show q_I d856 = q_I r832.2 by rw [e857]; rfl)
                have v862 : q_V d856 = q_V δ := ((show q_V d856 = q_V r832.2 by rw [e857]; rfl)).trans v841
                have v863 := kr_s L (by decide) v842 e857
                have f867 : (q_I d856 12 24 a0).toInt = (q_I r832.2 12 24 a0).toInt := congrArg Int32.toInt (by rw [e857]; rfl)
                first | (have q869 := te_addc (c := 1) (n := 1) rfl (q_I d856 12 24 a0) (by omega) (by omega); obtain ⟨f870, f871, f872⟩ := q869) | (obtain ⟨q869, f870, f871, f872⟩ := ti_addc (c := 1) (n := 1) rfl (q_I d856 12 24 a0))
                refine ok_bdv (fun d864 e865 => ?_)
                have i866 : RI ad h.1 δ0 d864 := by rw [e865]; exact cs_12_24 L i858 k_a0 (show 0 ≤ ((q_I d856 12 24 a0) + (1 : Int32)).toInt by omega) (show ((q_I d856 12 24 a0) + (1 : Int32)).toInt ≤ 4 by omega)
                have u873 := kp_I u861 e865
                have v874 : q_V d864 = q_V δ := ((show q_V d864 = q_V d856 by rw [e865]; rfl)).trans v862
                have v875 := kr_N v863 (show q_R d864 = q_R d856 by rw [e865]; rfl)
                unfold J_X12_thief_146
                have ss876 : NS ad a0 δ d1 := NS.t NS.r (NS.w e2 (by decide))
                have ss877 : NS0 ad a0 δ r682.2 := NS0.t (NS.z ss876) (NS.z ns698)
                have ss878 : NS0 ad a0 δ r708 := NS0.t ss877 ns728
                have ns880 : NS ad a0 d749 r755.2 := NS.t NS.r ns773
                have ns881 : NS ad a0 d749 r778 := NS.t ns880 ns792
                have ns882 : NS ad a0 r793 r832.2 := NS.t NS.r ns844
                have f883 : (q_I d743 12 24 a0).toInt = (q_I r708 12 24 a0).toInt := ((show (q_I d743 12 24 a0).toInt = (q_I d737 12 24 a0).toInt from congrArg Int32.toInt (by rw [e744]; exact rI_o (by decide))).trans (show (q_I d737 12 24 a0).toInt = (q_I r708 12 24 a0).toInt from congrArg Int32.toInt (by rw [e738]; exact rI_o (by decide))))
                have f884 : (q_I r832.2 12 26 a0).toInt = (q_I r793 12 26 a0).toInt := congrArg Int32.toInt (u836 12 26 a0 (by decide))
                have ss879 : TK ad a0 δ d864 := TK.good L ss878 e738 e744 e750 ns881 p810 (u813 112 (by decide) (by decide) (by decide)) ns882 (show (0 : Int) = 0 by omega) (show (0 : Int) = 0 by omega) (show (0 : Int) = 0 by omega) (by omega) e857 e865 (show (((q_I r832.2 12 24 a0).toNatClampNeg : Nat) : Int) = (q_I δ 12 24 a0).toInt by omega) (show (q_I r832.2 12 25 a0).toInt = (q_I r832.2 12 25 a0).toInt by omega) (show ((q_I d856 12 24 a0) + (1 : Int32)).toInt = (q_I δ 12 24 a0).toInt + 1 by omega) (show (q_I r832.2 12 5 a0).toInt = -1 by omega) (show (q_I r832.2 12 26 a0).toInt ≤ 500 by omega)
                have f885 : (q_I d864 12 2 a0).toInt = (q_I r708 12 2 a0).toInt := ((show (q_I d864 12 2 a0).toInt = (q_I d856 12 2 a0).toInt from congrArg Int32.toInt (by rw [e865]; exact rI_o (by decide))).trans ((show (q_I d856 12 2 a0).toInt = (q_I r832.2 12 2 a0).toInt from congrArg Int32.toInt (by rw [e857]; rfl)).trans ((show (q_I r832.2 12 2 a0).toInt = (q_I r793 12 2 a0).toInt from congrArg Int32.toInt (u836 12 2 a0 (by decide))).trans ((show (q_I r793 12 2 a0).toInt = (q_I r778 12 2 a0).toInt from congrArg Int32.toInt (u811 12 2 a0 (by decide))).trans ((show (q_I r778 12 2 a0).toInt = (q_I r755.2 12 2 a0).toInt from congrArg Int32.toInt (u784 12 2 a0 (by decide))).trans ((show (q_I r755.2 12 2 a0).toInt = (q_I d749 12 2 a0).toInt from congrArg Int32.toInt (u761 12 2 a0 (by decide))).trans ((show (q_I d749 12 2 a0).toInt = (q_I d743 12 2 a0).toInt from congrArg Int32.toInt (by rw [e750]; exact rI_o (by decide))).trans ((show (q_I d743 12 2 a0).toInt = (q_I d737 12 2 a0).toInt from congrArg Int32.toInt (by rw [e744]; exact rI_o (by decide))).trans (show (q_I d737 12 2 a0).toInt = (q_I r708 12 2 a0).toInt from congrArg Int32.toInt (by rw [e738]; exact rI_o (by decide)))))))))))
                exact ok_some (show RI ad h.1 δ0 d864 ∧ (kp [(12, 0), (12, 2), (12, 3), (12, 4), (12, 5), (12, 6), (12, 7), (12, 8), (12, 24), (12, 25), (12, 26), (12, 27)] δ d864 ∧ q_V d864 = q_V δ ∧ kr ad [100, 112, 113, 114, 115, 116, 117] δ d864) ∧ TK ad a0 δ d864 ∧ (0 ≤ (x1).toInt ∧ (x1).toInt ≤ (q_I δ 12 2 a0).toInt → (q_I d864 12 2 a0).toInt = 0) ∧ ((x1).toInt < 0 ∨ (q_I δ 12 2 a0).toInt < (x1).toInt → (q_I d864 12 2 a0).toInt = (q_I δ 12 2 a0).toInt) from ⟨i866, ⟨kp_w (by decide) u873, v874, kr_w (by decide) v875⟩, ss879, by first | with_reducible assumption | omega, by first | with_reducible assumption | omega⟩)
              · have c886 : r832.1.toInt ≠ (q_I r832.2 12 24 a0).toInt := o_ne h847
                unfold J_X12_thief_146
                have ss887 : NS ad a0 δ d1 := NS.t NS.r (NS.w e2 (by decide))
                have ss888 : NS0 ad a0 δ r682.2 := NS0.t (NS.z ss887) (NS.z ns698)
                have ss889 : NS0 ad a0 δ r708 := NS0.t ss888 ns728
                have ns891 : NS ad a0 d749 r755.2 := NS.t NS.r ns773
                have ns892 : NS ad a0 d749 r778 := NS.t ns891 ns792
                have ns893 : NS ad a0 r793 r832.2 := NS.t NS.r ns844
                have f894 : (q_I d743 12 24 a0).toInt = (q_I r708 12 24 a0).toInt := ((show (q_I d743 12 24 a0).toInt = (q_I d737 12 24 a0).toInt from congrArg Int32.toInt (by rw [e744]; exact rI_o (by decide))).trans (show (q_I d737 12 24 a0).toInt = (q_I r708 12 24 a0).toInt from congrArg Int32.toInt (by rw [e738]; exact rI_o (by decide))))
                have ss890 : TK ad a0 δ r832.2 := TK.bad L ss889 e738 e744 e750 ns892 p810 (u813 112 (by decide) (by decide) (by decide)) ns893 (show (0 : Int) = 0 by omega) (show (0 : Int) = 0 by omega) (show (0 : Int) = 0 by omega) (by omega)
                have f895 : (q_I r832.2 12 2 a0).toInt = (q_I r708 12 2 a0).toInt := ((show (q_I r832.2 12 2 a0).toInt = (q_I r793 12 2 a0).toInt from congrArg Int32.toInt (u836 12 2 a0 (by decide))).trans ((show (q_I r793 12 2 a0).toInt = (q_I r778 12 2 a0).toInt from congrArg Int32.toInt (u811 12 2 a0 (by decide))).trans ((show (q_I r778 12 2 a0).toInt = (q_I r755.2 12 2 a0).toInt from congrArg Int32.toInt (u784 12 2 a0 (by decide))).trans ((show (q_I r755.2 12 2 a0).toInt = (q_I d749 12 2 a0).toInt from congrArg Int32.toInt (u761 12 2 a0 (by decide))).trans ((show (q_I d749 12 2 a0).toInt = (q_I d743 12 2 a0).toInt from congrArg Int32.toInt (by rw [e750]; exact rI_o (by decide))).trans ((show (q_I d743 12 2 a0).toInt = (q_I d737 12 2 a0).toInt from congrArg Int32.toInt (by rw [e744]; exact rI_o (by decide))).trans (show (q_I d737 12 2 a0).toInt = (q_I r708 12 2 a0).toInt from congrArg Int32.toInt (by rw [e738]; exact rI_o (by decide)))))))))
                exact ok_some (show RI ad h.1 δ0 r832.2 ∧ (kp [(12, 0), (12, 2), (12, 3), (12, 4), (12, 5), (12, 6), (12, 7), (12, 8), (12, 24), (12, 25), (12, 26), (12, 27)] δ r832.2 ∧ q_V r832.2 = q_V δ ∧ kr ad [100, 112, 113, 114, 115, 116, 117] δ r832.2) ∧ TK ad a0 δ r832.2 ∧ (0 ≤ (x1).toInt ∧ (x1).toInt ≤ (q_I δ 12 2 a0).toInt → (q_I r832.2 12 2 a0).toInt = 0) ∧ ((x1).toInt < 0 ∨ (q_I δ 12 2 a0).toInt < (x1).toInt → (q_I r832.2 12 2 a0).toInt = (q_I δ 12 2 a0).toInt) from ⟨i834, ⟨kp_w (by decide) u840, v841, kr_w (by decide) v842⟩, ss890, by first | with_reducible assumption | omega, by first | with_reducible assumption | omega⟩)
            · have c896 : r822.1.toInt ≠ (0 : Int) := o_ne h830
              refine ok_bind (k_X12_isMore L hN (a0 := a0) k_a0 i804) (fun r897 hr898 => ?_)
              obtain ⟨i899, ⟨u903, u904, u905, u906⟩, p900, p901, p902⟩ := hr898
              have u907 := kp_t u814 u903
              have v908 : q_V r897.2 = q_V δ := (u904).trans v815
              have v909 := kr_t v816 u906
              have f910 := bo_l p900
              have f911 := cb_12_4 i899 k_a0
              have f912 := ti_b r897.1
              have f913 : (q_I r793 12 3 a0).toInt = (q_I r755.2 12 3 a0).toInt := ((show (q_I r793 12 3 a0).toInt = (q_I r778 12 3 a0).toInt from congrArg Int32.toInt (u811 12 3 a0 (by decide))).trans (show (q_I r778 12 3 a0).toInt = (q_I r755.2 12 3 a0).toInt from congrArg Int32.toInt (u784 12 3 a0 (by decide))))
              have f915 : (q_I r897.2 12 5 a0).toInt = (q_I r793 12 5 a0).toInt := congrArg Int32.toInt (u903 12 5 a0 (by decide))
              have ns914 : NS ad a0 r793 r897.2 := ⟨u906 112 (by decide) (by decide) (by decide), u906 113 (by decide) (by decide) (by decide), u906 114 (by decide) (by decide) (by decide), u906 115 (by decide) (by decide) (by decide), u906 116 (by decide) (by decide) (by decide), u903 12 24 _ (by decide), u903 12 25 _ (by decide), u903 12 26 _ (by decide), u903 12 27 _ (by decide), fun z => by omega⟩
              refine ok_ite (fun h916 => ?_) (fun h916 => ?_)
              · have c917 : r897.1.toInt = (0 : Int) := o_eq h916
                unfold J_X12_thief_106
                refine ok_bind (k_X12_result L hN (a0 := a0) (x1 := (q_I r897.2 12 24 a0)) k_a0 i899) (fun r918 hr919 => ?_)
                obtain ⟨i920, ⟨u922, u923, u924, u925⟩, p921⟩ := hr919
                have u926 := kp_t u907 u922
                have v927 : q_V r918.2 = q_V δ := (u923).trans v908
                have v928 := kr_t v909 u925
                have f929 := ti_b r918.1
                have f931 : (q_I r918.2 12 5 a0).toInt = (q_I r897.2 12 5 a0).toInt := congrArg Int32.toInt (u922 12 5 a0 (by decide))
                have ns930 : NS ad a0 r897.2 r918.2 := ⟨u925 112 (by decide) (by decide) (by decide), u925 113 (by decide) (by decide) (by decide), u925 114 (by decide) (by decide) (by decide), u925 115 (by decide) (by decide) (by decide), u925 116 (by decide) (by decide) (by decide), u922 12 24 _ (by decide), u922 12 25 _ (by decide), u922 12 26 _ (by decide), u922 12 27 _ (by decide), fun z => by omega⟩
                have f932 : (q_I r918.2 12 24 a0).toInt = (q_I r778 12 24 a0).toInt := ((show (q_I r918.2 12 24 a0).toInt = (q_I r897.2 12 24 a0).toInt from congrArg Int32.toInt (u922 12 24 a0 (by decide))).trans ((show (q_I r897.2 12 24 a0).toInt = (q_I r793 12 24 a0).toInt from congrArg Int32.toInt (u903 12 24 a0 (by decide))).trans (show (q_I r793 12 24 a0).toInt = (q_I r778 12 24 a0).toInt from congrArg Int32.toInt (u811 12 24 a0 (by decide)))))
                refine ok_ite (fun h933 => ?_) (fun h933 => ?_)
                · have c934 : r918.1.toInt = (q_I r918.2 12 24 a0).toInt := o_eq h933
                  obtain ⟨b935, o936, k937, n938⟩ := gO_12_28 L k_a0
                  obtain rfl := gS_12_28 L k_a0 o936
                  refine ok_at o936 ?_
                  have t939 := ti_tn (q_I r918.2 12 24 a0)
                  refine ok_gd (fun hc940 => ?_) ?_
                  · rcases hc940 with hc940 | hc940
                    · have c941 : (q_I r918.2 12 24 a0).toInt < (0 : Int) := o_lt hc940
                      omega
                    · omega
                  have f945 : (q_I r918.2 12 25 a0).toInt = (q_I r793 12 25 a0).toInt := ((show (q_I r918.2 12 25 a0).toInt = (q_I r897.2 12 25 a0).toInt from congrArg Int32.toInt (u922 12 25 a0 (by decide))).trans (show (q_I r897.2 12 25 a0).toInt = (q_I r793 12 25 a0).toInt from congrArg Int32.toInt (u903 12 25 a0 (by decide))))
                  have f946 := cb_12_25 i804 k_a0
                  refine ok_bdv (fun d942 e943 => ?_)
                  have i944 : RI ad h.1 δ0 d942 := by rw [e943]; exact cr_112 L i920 (show 0 ≤ (q_I r918.2 12 25 a0).toInt by omega) (show (q_I r918.2 12 25 a0).toInt ≤ 60 by omega)
                  have u947 := kp_N u926 (show q_I d942 = q_I r918.2 by rw [e943]; rfl)
                  have v948 : q_V d942 = q_V δ := ((show q_V d942 = q_V r918.2 by rw [e943]; rfl)).trans v927
                  have v949 := kr_s L (by decide) v928 e943
                  have f953 : (q_I d942 12 24 a0).toInt = (q_I r918.2 12 24 a0).toInt := congrArg Int32.toInt (by rw [e943]; rfl)
                  first | (have q955 := te_addc (c := 1) (n := 1) rfl (q_I d942 12 24 a0) (by omega) (by omega); obtain ⟨f956, f957, f958⟩ := q955) | (obtain ⟨q955, f956, f957, f958⟩ := ti_addc (c := 1) (n := 1) rfl (q_I d942 12 24 a0))
                  refine ok_bdv (fun d950 e951 => ?_)
                  have i952 : RI ad h.1 δ0 d950 := by rw [e951]; exact cs_12_24 L i944 k_a0 (show 0 ≤ ((q_I d942 12 24 a0) + (1 : Int32)).toInt by omega) (show ((q_I d942 12 24 a0) + (1 : Int32)).toInt ≤ 4 by omega)
                  have u959 := kp_I u947 e951
                  have v960 : q_V d950 = q_V δ := ((show q_V d950 = q_V d942 by rw [e951]; rfl)).trans v948
                  have v961 := kr_N v949 (show q_R d950 = q_R d942 by rw [e951]; rfl)
                  unfold J_X12_thief_146
                  have ss962 : NS ad a0 δ d1 := NS.t NS.r (NS.w e2 (by decide))
                  have ss963 : NS0 ad a0 δ r682.2 := NS0.t (NS.z ss962) (NS.z ns698)
                  have ss964 : NS0 ad a0 δ r708 := NS0.t ss963 ns728
                  have ns966 : NS ad a0 d749 r755.2 := NS.t NS.r ns773
                  have ns967 : NS ad a0 d749 r778 := NS.t ns966 ns792
                  have ns968 : NS ad a0 r793 r897.2 := NS.t NS.r ns914
                  have ns969 : NS ad a0 r793 r918.2 := NS.t ns968 ns930
                  have f970 : (q_I d743 12 24 a0).toInt = (q_I r708 12 24 a0).toInt := ((show (q_I d743 12 24 a0).toInt = (q_I d737 12 24 a0).toInt from congrArg Int32.toInt (by rw [e744]; exact rI_o (by decide))).trans (show (q_I d737 12 24 a0).toInt = (q_I r708 12 24 a0).toInt from congrArg Int32.toInt (by rw [e738]; exact rI_o (by decide))))
                  have f971 : (q_I r918.2 12 26 a0).toInt = (q_I r793 12 26 a0).toInt := ((show (q_I r918.2 12 26 a0).toInt = (q_I r897.2 12 26 a0).toInt from congrArg Int32.toInt (u922 12 26 a0 (by decide))).trans (show (q_I r897.2 12 26 a0).toInt = (q_I r793 12 26 a0).toInt from congrArg Int32.toInt (u903 12 26 a0 (by decide))))
                  have ss965 : TK ad a0 δ d950 := TK.good L ss964 e738 e744 e750 ns967 p810 (u813 112 (by decide) (by decide) (by decide)) ns969 (show (0 : Int) = 0 by omega) (show (0 : Int) = 0 by omega) (show (0 : Int) = 0 by omega) (by omega) e943 e951 (show (((q_I r918.2 12 24 a0).toNatClampNeg : Nat) : Int) = (q_I δ 12 24 a0).toInt by omega) (show (q_I r918.2 12 25 a0).toInt = (q_I r918.2 12 25 a0).toInt by omega) (show ((q_I d942 12 24 a0) + (1 : Int32)).toInt = (q_I δ 12 24 a0).toInt + 1 by omega) (show (q_I r918.2 12 5 a0).toInt = -1 by omega) (show (q_I r918.2 12 26 a0).toInt ≤ 500 by omega)
                  have f972 : (q_I d950 12 2 a0).toInt = (q_I r708 12 2 a0).toInt := ((show (q_I d950 12 2 a0).toInt = (q_I d942 12 2 a0).toInt from congrArg Int32.toInt (by rw [e951]; exact rI_o (by decide))).trans ((show (q_I d942 12 2 a0).toInt = (q_I r918.2 12 2 a0).toInt from congrArg Int32.toInt (by rw [e943]; rfl)).trans ((show (q_I r918.2 12 2 a0).toInt = (q_I r897.2 12 2 a0).toInt from congrArg Int32.toInt (u922 12 2 a0 (by decide))).trans ((show (q_I r897.2 12 2 a0).toInt = (q_I r793 12 2 a0).toInt from congrArg Int32.toInt (u903 12 2 a0 (by decide))).trans ((show (q_I r793 12 2 a0).toInt = (q_I r778 12 2 a0).toInt from congrArg Int32.toInt (u811 12 2 a0 (by decide))).trans ((show (q_I r778 12 2 a0).toInt = (q_I r755.2 12 2 a0).toInt from congrArg Int32.toInt (u784 12 2 a0 (by decide))).trans ((show (q_I r755.2 12 2 a0).toInt = (q_I d749 12 2 a0).toInt from congrArg Int32.toInt (u761 12 2 a0 (by decide))).trans ((show (q_I d749 12 2 a0).toInt = (q_I d743 12 2 a0).toInt from congrArg Int32.toInt (by rw [e750]; exact rI_o (by decide))).trans ((show (q_I d743 12 2 a0).toInt = (q_I d737 12 2 a0).toInt from congrArg Int32.toInt (by rw [e744]; exact rI_o (by decide))).trans (show (q_I d737 12 2 a0).toInt = (q_I r708 12 2 a0).toInt from congrArg Int32.toInt (by rw [e738]; exact rI_o (by decide))))))))))))
                  exact ok_some (show RI ad h.1 δ0 d950 ∧ (kp [(12, 0), (12, 2), (12, 3), (12, 4), (12, 5), (12, 6), (12, 7), (12, 8), (12, 24), (12, 25), (12, 26), (12, 27)] δ d950 ∧ q_V d950 = q_V δ ∧ kr ad [100, 112, 113, 114, 115, 116, 117] δ d950) ∧ TK ad a0 δ d950 ∧ (0 ≤ (x1).toInt ∧ (x1).toInt ≤ (q_I δ 12 2 a0).toInt → (q_I d950 12 2 a0).toInt = 0) ∧ ((x1).toInt < 0 ∨ (q_I δ 12 2 a0).toInt < (x1).toInt → (q_I d950 12 2 a0).toInt = (q_I δ 12 2 a0).toInt) from ⟨i952, ⟨kp_w (by decide) u959, v960, kr_w (by decide) v961⟩, ss965, by first | with_reducible assumption | omega, by first | with_reducible assumption | omega⟩)
                · have c973 : r918.1.toInt ≠ (q_I r918.2 12 24 a0).toInt := o_ne h933
                  unfold J_X12_thief_146
                  have ss974 : NS ad a0 δ d1 := NS.t NS.r (NS.w e2 (by decide))
                  have ss975 : NS0 ad a0 δ r682.2 := NS0.t (NS.z ss974) (NS.z ns698)
                  have ss976 : NS0 ad a0 δ r708 := NS0.t ss975 ns728
                  have ns978 : NS ad a0 d749 r755.2 := NS.t NS.r ns773
                  have ns979 : NS ad a0 d749 r778 := NS.t ns978 ns792
                  have ns980 : NS ad a0 r793 r897.2 := NS.t NS.r ns914
                  have ns981 : NS ad a0 r793 r918.2 := NS.t ns980 ns930
                  have f982 : (q_I d743 12 24 a0).toInt = (q_I r708 12 24 a0).toInt := ((show (q_I d743 12 24 a0).toInt = (q_I d737 12 24 a0).toInt from congrArg Int32.toInt (by rw [e744]; exact rI_o (by decide))).trans (show (q_I d737 12 24 a0).toInt = (q_I r708 12 24 a0).toInt from congrArg Int32.toInt (by rw [e738]; exact rI_o (by decide))))
                  have ss977 : TK ad a0 δ r918.2 := TK.bad L ss976 e738 e744 e750 ns979 p810 (u813 112 (by decide) (by decide) (by decide)) ns981 (show (0 : Int) = 0 by omega) (show (0 : Int) = 0 by omega) (show (0 : Int) = 0 by omega) (by omega)
                  have f983 : (q_I r918.2 12 2 a0).toInt = (q_I r708 12 2 a0).toInt := ((show (q_I r918.2 12 2 a0).toInt = (q_I r897.2 12 2 a0).toInt from congrArg Int32.toInt (u922 12 2 a0 (by decide))).trans ((show (q_I r897.2 12 2 a0).toInt = (q_I r793 12 2 a0).toInt from congrArg Int32.toInt (u903 12 2 a0 (by decide))).trans ((show (q_I r793 12 2 a0).toInt = (q_I r778 12 2 a0).toInt from congrArg Int32.toInt (u811 12 2 a0 (by decide))).trans ((show (q_I r778 12 2 a0).toInt = (q_I r755.2 12 2 a0).toInt from congrArg Int32.toInt (u784 12 2 a0 (by decide))).trans ((show (q_I r755.2 12 2 a0).toInt = (q_I d749 12 2 a0).toInt from congrArg Int32.toInt (u761 12 2 a0 (by decide))).trans ((show (q_I d749 12 2 a0).toInt = (q_I d743 12 2 a0).toInt from congrArg Int32.toInt (by rw [e750]; exact rI_o (by decide))).trans ((show (q_I d743 12 2 a0).toInt = (q_I d737 12 2 a0).toInt from congrArg Int32.toInt (by rw [e744]; exact rI_o (by decide))).trans (show (q_I d737 12 2 a0).toInt = (q_I r708 12 2 a0).toInt from congrArg Int32.toInt (by rw [e738]; exact rI_o (by decide))))))))))
                  exact ok_some (show RI ad h.1 δ0 r918.2 ∧ (kp [(12, 0), (12, 2), (12, 3), (12, 4), (12, 5), (12, 6), (12, 7), (12, 8), (12, 24), (12, 25), (12, 26), (12, 27)] δ r918.2 ∧ q_V r918.2 = q_V δ ∧ kr ad [100, 112, 113, 114, 115, 116, 117] δ r918.2) ∧ TK ad a0 δ r918.2 ∧ (0 ≤ (x1).toInt ∧ (x1).toInt ≤ (q_I δ 12 2 a0).toInt → (q_I r918.2 12 2 a0).toInt = 0) ∧ ((x1).toInt < 0 ∨ (q_I δ 12 2 a0).toInt < (x1).toInt → (q_I r918.2 12 2 a0).toInt = (q_I δ 12 2 a0).toInt) from ⟨i920, ⟨kp_w (by decide) u926, v927, kr_w (by decide) v928⟩, ss977, by first | with_reducible assumption | omega, by first | with_reducible assumption | omega⟩)
              · have c984 : r897.1.toInt ≠ (0 : Int) := o_ne h916
                refine ok_bind (k_X12_wrong L hN (a0 := a0) (x1 := (1 : Int32)) (x2 := (q_I r897.2 12 4 a0)) k_a0 (show 0 ≤ ((q_I r897.2 12 4 a0)).toInt by first | with_reducible assumption | omega) (show ((q_I r897.2 12 4 a0)).toInt ≤ 500 by first | with_reducible assumption | omega) (show 0 ≤ (1 : Int) by first | with_reducible assumption | omega) (show (1 : Int) ≤ 4 by first | with_reducible assumption | omega) i899) (fun r985 hr986 => ?_)
                obtain ⟨i987, ⟨u990, u991, u992, u993⟩, p988, p989⟩ := hr986
                have u994 := kp_t u907 u990
                have v995 : q_V r985 = q_V δ := (u991).trans v908
                have v996 := kr_t v909 u993
                have f997 := cb_12_5 i987 k_a0
                have ns998 : NS ad a0 r897.2 r985 := ⟨u993 112 (by decide) (by decide) (by decide), u993 113 (by decide) (by decide) (by decide), u993 114 (by decide) (by decide) (by decide), u993 115 (by decide) (by decide) (by decide), u993 116 (by decide) (by decide) (by decide), u990 12 24 _ (by decide), u990 12 25 _ (by decide), u990 12 26 _ (by decide), u990 12 27 _ (by decide), fun z => by omega⟩
                unfold J_X12_thief_106
                refine ok_bind (k_X12_result L hN (a0 := a0) (x1 := (q_I r985 12 24 a0)) k_a0 i987) (fun r999 hr1000 => ?_)
                obtain ⟨i1001, ⟨u1003, u1004, u1005, u1006⟩, p1002⟩ := hr1000
                have u1007 := kp_t u994 u1003
                have v1008 : q_V r999.2 = q_V δ := (u1004).trans v995
                have v1009 := kr_t v996 u1006
                have f1010 := ti_b r999.1
                have f1012 : (q_I r999.2 12 5 a0).toInt = (q_I r985 12 5 a0).toInt := congrArg Int32.toInt (u1003 12 5 a0 (by decide))
                have ns1011 : NS ad a0 r985 r999.2 := ⟨u1006 112 (by decide) (by decide) (by decide), u1006 113 (by decide) (by decide) (by decide), u1006 114 (by decide) (by decide) (by decide), u1006 115 (by decide) (by decide) (by decide), u1006 116 (by decide) (by decide) (by decide), u1003 12 24 _ (by decide), u1003 12 25 _ (by decide), u1003 12 26 _ (by decide), u1003 12 27 _ (by decide), fun z => by omega⟩
                have f1013 : (q_I r999.2 12 24 a0).toInt = (q_I r778 12 24 a0).toInt := ((show (q_I r999.2 12 24 a0).toInt = (q_I r985 12 24 a0).toInt from congrArg Int32.toInt (u1003 12 24 a0 (by decide))).trans ((show (q_I r985 12 24 a0).toInt = (q_I r897.2 12 24 a0).toInt from congrArg Int32.toInt (u990 12 24 a0 (by decide))).trans ((show (q_I r897.2 12 24 a0).toInt = (q_I r793 12 24 a0).toInt from congrArg Int32.toInt (u903 12 24 a0 (by decide))).trans (show (q_I r793 12 24 a0).toInt = (q_I r778 12 24 a0).toInt from congrArg Int32.toInt (u811 12 24 a0 (by decide))))))
                refine ok_ite (fun h1014 => ?_) (fun h1014 => ?_)
                · have c1015 : r999.1.toInt = (q_I r999.2 12 24 a0).toInt := o_eq h1014
                  obtain ⟨b1016, o1017, k1018, n1019⟩ := gO_12_28 L k_a0
                  obtain rfl := gS_12_28 L k_a0 o1017
                  refine ok_at o1017 ?_
                  have t1020 := ti_tn (q_I r999.2 12 24 a0)
                  refine ok_gd (fun hc1021 => ?_) ?_
                  · rcases hc1021 with hc1021 | hc1021
                    · have c1022 : (q_I r999.2 12 24 a0).toInt < (0 : Int) := o_lt hc1021
                      omega
                    · omega
                  have f1026 : (q_I r999.2 12 25 a0).toInt = (q_I r793 12 25 a0).toInt := ((show (q_I r999.2 12 25 a0).toInt = (q_I r985 12 25 a0).toInt from congrArg Int32.toInt (u1003 12 25 a0 (by decide))).trans ((show (q_I r985 12 25 a0).toInt = (q_I r897.2 12 25 a0).toInt from congrArg Int32.toInt (u990 12 25 a0 (by decide))).trans (show (q_I r897.2 12 25 a0).toInt = (q_I r793 12 25 a0).toInt from congrArg Int32.toInt (u903 12 25 a0 (by decide)))))
                  have f1027 := cb_12_25 i804 k_a0
                  refine ok_bdv (fun d1023 e1024 => ?_)
                  have i1025 : RI ad h.1 δ0 d1023 := by rw [e1024]; exact cr_112 L i1001 (show 0 ≤ (q_I r999.2 12 25 a0).toInt by omega) (show (q_I r999.2 12 25 a0).toInt ≤ 60 by omega)
                  have u1028 := kp_N u1007 (show q_I d1023 = q_I r999.2 by rw [e1024]; rfl)
                  have v1029 : q_V d1023 = q_V δ := ((show q_V d1023 = q_V r999.2 by rw [e1024]; rfl)).trans v1008
                  have v1030 := kr_s L (by decide) v1009 e1024
                  have f1034 : (q_I d1023 12 24 a0).toInt = (q_I r999.2 12 24 a0).toInt := congrArg Int32.toInt (by rw [e1024]; rfl)
                  first | (have q1036 := te_addc (c := 1) (n := 1) rfl (q_I d1023 12 24 a0) (by omega) (by omega); obtain ⟨f1037, f1038, f1039⟩ := q1036) | (obtain ⟨q1036, f1037, f1038, f1039⟩ := ti_addc (c := 1) (n := 1) rfl (q_I d1023 12 24 a0))
                  refine ok_bdv (fun d1031 e1032 => ?_)
                  have i1033 : RI ad h.1 δ0 d1031 := by rw [e1032]; exact cs_12_24 L i1025 k_a0 (show 0 ≤ ((q_I d1023 12 24 a0) + (1 : Int32)).toInt by omega) (show ((q_I d1023 12 24 a0) + (1 : Int32)).toInt ≤ 4 by omega)
                  have u1040 := kp_I u1028 e1032
                  have v1041 : q_V d1031 = q_V δ := ((show q_V d1031 = q_V d1023 by rw [e1032]; rfl)).trans v1029
                  have v1042 := kr_N v1030 (show q_R d1031 = q_R d1023 by rw [e1032]; rfl)
                  unfold J_X12_thief_146
                  have ss1043 : NS ad a0 δ d1 := NS.t NS.r (NS.w e2 (by decide))
                  have ss1044 : NS0 ad a0 δ r682.2 := NS0.t (NS.z ss1043) (NS.z ns698)
                  have ss1045 : NS0 ad a0 δ r708 := NS0.t ss1044 ns728
                  have ns1047 : NS ad a0 d749 r755.2 := NS.t NS.r ns773
                  have ns1048 : NS ad a0 d749 r778 := NS.t ns1047 ns792
                  have ns1049 : NS ad a0 r793 r897.2 := NS.t NS.r ns914
                  have ns1050 : NS ad a0 r793 r985 := NS.t ns1049 ns998
                  have ns1051 : NS ad a0 r793 r999.2 := NS.t ns1050 ns1011
                  have f1052 : (q_I d743 12 24 a0).toInt = (q_I r708 12 24 a0).toInt := ((show (q_I d743 12 24 a0).toInt = (q_I d737 12 24 a0).toInt from congrArg Int32.toInt (by rw [e744]; exact rI_o (by decide))).trans (show (q_I d737 12 24 a0).toInt = (q_I r708 12 24 a0).toInt from congrArg Int32.toInt (by rw [e738]; exact rI_o (by decide))))
                  have f1053 : (q_I r999.2 12 26 a0).toInt = (q_I r793 12 26 a0).toInt := ((show (q_I r999.2 12 26 a0).toInt = (q_I r985 12 26 a0).toInt from congrArg Int32.toInt (u1003 12 26 a0 (by decide))).trans ((show (q_I r985 12 26 a0).toInt = (q_I r897.2 12 26 a0).toInt from congrArg Int32.toInt (u990 12 26 a0 (by decide))).trans (show (q_I r897.2 12 26 a0).toInt = (q_I r793 12 26 a0).toInt from congrArg Int32.toInt (u903 12 26 a0 (by decide)))))
                  have ss1046 : TK ad a0 δ d1031 := TK.good L ss1045 e738 e744 e750 ns1048 p810 (u813 112 (by decide) (by decide) (by decide)) ns1051 (show (0 : Int) = 0 by omega) (show (0 : Int) = 0 by omega) (show (0 : Int) = 0 by omega) (by omega) e1024 e1032 (show (((q_I r999.2 12 24 a0).toNatClampNeg : Nat) : Int) = (q_I δ 12 24 a0).toInt by omega) (show (q_I r999.2 12 25 a0).toInt = (q_I r999.2 12 25 a0).toInt by omega) (show ((q_I d1023 12 24 a0) + (1 : Int32)).toInt = (q_I δ 12 24 a0).toInt + 1 by omega) (show (q_I r999.2 12 5 a0).toInt = -1 by omega) (show (q_I r999.2 12 26 a0).toInt ≤ 500 by omega)
                  have f1054 : (q_I d1031 12 2 a0).toInt = (q_I r708 12 2 a0).toInt := ((show (q_I d1031 12 2 a0).toInt = (q_I d1023 12 2 a0).toInt from congrArg Int32.toInt (by rw [e1032]; exact rI_o (by decide))).trans ((show (q_I d1023 12 2 a0).toInt = (q_I r999.2 12 2 a0).toInt from congrArg Int32.toInt (by rw [e1024]; rfl)).trans ((show (q_I r999.2 12 2 a0).toInt = (q_I r985 12 2 a0).toInt from congrArg Int32.toInt (u1003 12 2 a0 (by decide))).trans ((show (q_I r985 12 2 a0).toInt = (q_I r897.2 12 2 a0).toInt from congrArg Int32.toInt (u990 12 2 a0 (by decide))).trans ((show (q_I r897.2 12 2 a0).toInt = (q_I r793 12 2 a0).toInt from congrArg Int32.toInt (u903 12 2 a0 (by decide))).trans ((show (q_I r793 12 2 a0).toInt = (q_I r778 12 2 a0).toInt from congrArg Int32.toInt (u811 12 2 a0 (by decide))).trans ((show (q_I r778 12 2 a0).toInt = (q_I r755.2 12 2 a0).toInt from congrArg Int32.toInt (u784 12 2 a0 (by decide))).trans ((show (q_I r755.2 12 2 a0).toInt = (q_I d749 12 2 a0).toInt from congrArg Int32.toInt (u761 12 2 a0 (by decide))).trans ((show (q_I d749 12 2 a0).toInt = (q_I d743 12 2 a0).toInt from congrArg Int32.toInt (by rw [e750]; exact rI_o (by decide))).trans ((show (q_I d743 12 2 a0).toInt = (q_I d737 12 2 a0).toInt from congrArg Int32.toInt (by rw [e744]; exact rI_o (by decide))).trans (show (q_I d737 12 2 a0).toInt = (q_I r708 12 2 a0).toInt from congrArg Int32.toInt (by rw [e738]; exact rI_o (by decide)))))))))))))
                  exact ok_some (show RI ad h.1 δ0 d1031 ∧ (kp [(12, 0), (12, 2), (12, 3), (12, 4), (12, 5), (12, 6), (12, 7), (12, 8), (12, 24), (12, 25), (12, 26), (12, 27)] δ d1031 ∧ q_V d1031 = q_V δ ∧ kr ad [100, 112, 113, 114, 115, 116, 117] δ d1031) ∧ TK ad a0 δ d1031 ∧ (0 ≤ (x1).toInt ∧ (x1).toInt ≤ (q_I δ 12 2 a0).toInt → (q_I d1031 12 2 a0).toInt = 0) ∧ ((x1).toInt < 0 ∨ (q_I δ 12 2 a0).toInt < (x1).toInt → (q_I d1031 12 2 a0).toInt = (q_I δ 12 2 a0).toInt) from ⟨i1033, ⟨kp_w (by decide) u1040, v1041, kr_w (by decide) v1042⟩, ss1046, by first | with_reducible assumption | omega, by first | with_reducible assumption | omega⟩)
                · have c1055 : r999.1.toInt ≠ (q_I r999.2 12 24 a0).toInt := o_ne h1014
                  unfold J_X12_thief_146
                  have ss1056 : NS ad a0 δ d1 := NS.t NS.r (NS.w e2 (by decide))
                  have ss1057 : NS0 ad a0 δ r682.2 := NS0.t (NS.z ss1056) (NS.z ns698)
                  have ss1058 : NS0 ad a0 δ r708 := NS0.t ss1057 ns728
                  have ns1060 : NS ad a0 d749 r755.2 := NS.t NS.r ns773
                  have ns1061 : NS ad a0 d749 r778 := NS.t ns1060 ns792
                  have ns1062 : NS ad a0 r793 r897.2 := NS.t NS.r ns914
                  have ns1063 : NS ad a0 r793 r985 := NS.t ns1062 ns998
                  have ns1064 : NS ad a0 r793 r999.2 := NS.t ns1063 ns1011
                  have f1065 : (q_I d743 12 24 a0).toInt = (q_I r708 12 24 a0).toInt := ((show (q_I d743 12 24 a0).toInt = (q_I d737 12 24 a0).toInt from congrArg Int32.toInt (by rw [e744]; exact rI_o (by decide))).trans (show (q_I d737 12 24 a0).toInt = (q_I r708 12 24 a0).toInt from congrArg Int32.toInt (by rw [e738]; exact rI_o (by decide))))
                  have ss1059 : TK ad a0 δ r999.2 := TK.bad L ss1058 e738 e744 e750 ns1061 p810 (u813 112 (by decide) (by decide) (by decide)) ns1064 (show (0 : Int) = 0 by omega) (show (0 : Int) = 0 by omega) (show (0 : Int) = 0 by omega) (by omega)
                  have f1066 : (q_I r999.2 12 2 a0).toInt = (q_I r708 12 2 a0).toInt := ((show (q_I r999.2 12 2 a0).toInt = (q_I r985 12 2 a0).toInt from congrArg Int32.toInt (u1003 12 2 a0 (by decide))).trans ((show (q_I r985 12 2 a0).toInt = (q_I r897.2 12 2 a0).toInt from congrArg Int32.toInt (u990 12 2 a0 (by decide))).trans ((show (q_I r897.2 12 2 a0).toInt = (q_I r793 12 2 a0).toInt from congrArg Int32.toInt (u903 12 2 a0 (by decide))).trans ((show (q_I r793 12 2 a0).toInt = (q_I r778 12 2 a0).toInt from congrArg Int32.toInt (u811 12 2 a0 (by decide))).trans ((show (q_I r778 12 2 a0).toInt = (q_I r755.2 12 2 a0).toInt from congrArg Int32.toInt (u784 12 2 a0 (by decide))).trans ((show (q_I r755.2 12 2 a0).toInt = (q_I d749 12 2 a0).toInt from congrArg Int32.toInt (u761 12 2 a0 (by decide))).trans ((show (q_I d749 12 2 a0).toInt = (q_I d743 12 2 a0).toInt from congrArg Int32.toInt (by rw [e750]; exact rI_o (by decide))).trans ((show (q_I d743 12 2 a0).toInt = (q_I d737 12 2 a0).toInt from congrArg Int32.toInt (by rw [e744]; exact rI_o (by decide))).trans (show (q_I d737 12 2 a0).toInt = (q_I r708 12 2 a0).toInt from congrArg Int32.toInt (by rw [e738]; exact rI_o (by decide)))))))))))
                  exact ok_some (show RI ad h.1 δ0 r999.2 ∧ (kp [(12, 0), (12, 2), (12, 3), (12, 4), (12, 5), (12, 6), (12, 7), (12, 8), (12, 24), (12, 25), (12, 26), (12, 27)] δ r999.2 ∧ q_V r999.2 = q_V δ ∧ kr ad [100, 112, 113, 114, 115, 116, 117] δ r999.2) ∧ TK ad a0 δ r999.2 ∧ (0 ≤ (x1).toInt ∧ (x1).toInt ≤ (q_I δ 12 2 a0).toInt → (q_I r999.2 12 2 a0).toInt = 0) ∧ ((x1).toInt < 0 ∨ (q_I δ 12 2 a0).toInt < (x1).toInt → (q_I r999.2 12 2 a0).toInt = (q_I δ 12 2 a0).toInt) from ⟨i1001, ⟨kp_w (by decide) u1007, v1008, kr_w (by decide) v1009⟩, ss1059, by first | with_reducible assumption | omega, by first | with_reducible assumption | omega⟩)
          · have c1067 : r755.1.toInt ≠ (0 : Int) := o_ne h776
            unfold J_X12_thief_79
            have f1070 : (q_I r755.2 12 24 a0).toInt = (q_I r708 12 24 a0).toInt := ((show (q_I r755.2 12 24 a0).toInt = (q_I d749 12 24 a0).toInt from congrArg Int32.toInt (u761 12 24 a0 (by decide))).trans ((show (q_I d749 12 24 a0).toInt = (q_I d743 12 24 a0).toInt from congrArg Int32.toInt (by rw [e750]; exact rI_o (by decide))).trans ((show (q_I d743 12 24 a0).toInt = (q_I d737 12 24 a0).toInt from congrArg Int32.toInt (by rw [e744]; exact rI_o (by decide))).trans (show (q_I d737 12 24 a0).toInt = (q_I r708 12 24 a0).toInt from congrArg Int32.toInt (by rw [e738]; exact rI_o (by decide))))))
            have f1071 : (q_I r755.2 12 26 a0).toInt = (q_I d743 12 26 a0).toInt := ((show (q_I r755.2 12 26 a0).toInt = (q_I d749 12 26 a0).toInt from congrArg Int32.toInt (u761 12 26 a0 (by decide))).trans (show (q_I d749 12 26 a0).toInt = (q_I d743 12 26 a0).toInt from congrArg Int32.toInt (by rw [e750]; exact rI_o (by decide))))
            have f1072 := cb_12_26 i745 k_a0
            have f1073 : (q_I d743 12 26 a0).toInt = (0 : Int) := congrArg Int32.toInt (show q_I d743 12 26 a0 = (0 : Int32) by rw [e744]; exact rI_s)
            have f1074 : (q_I r755.2 12 7 a0).toInt = (q_I r708 12 7 a0).toInt := ((show (q_I r755.2 12 7 a0).toInt = (q_I d749 12 7 a0).toInt from congrArg Int32.toInt (u761 12 7 a0 (by decide))).trans ((show (q_I d749 12 7 a0).toInt = (q_I d743 12 7 a0).toInt from congrArg Int32.toInt (by rw [e750]; exact rI_o (by decide))).trans ((show (q_I d743 12 7 a0).toInt = (q_I d737 12 7 a0).toInt from congrArg Int32.toInt (by rw [e744]; exact rI_o (by decide))).trans (show (q_I d737 12 7 a0).toInt = (q_I r708 12 7 a0).toInt from congrArg Int32.toInt (by rw [e738]; exact rI_o (by decide))))))
            have f1075 : (q_I r755.2 12 27 a0).toInt = (q_I d749 12 27 a0).toInt := congrArg Int32.toInt (u761 12 27 a0 (by decide))
            have f1076 := cb_12_27 i751 k_a0
            have f1077 : (q_I d749 12 27 a0).toInt = (0 : Int) := congrArg Int32.toInt (show q_I d749 12 27 a0 = (0 : Int32) by rw [e750]; exact rI_s)
            refine ok_bind (k_X12_readSteps L hN (a0 := a0) k_a0 (show (q_I r755.2 12 24 a0).toInt ≤ 3 by first | with_reducible assumption | omega) (show (q_I r755.2 12 26 a0).toInt ≤ (q_I r755.2 12 4 a0).toInt by first | with_reducible assumption | omega) (show (q_I r755.2 12 7 a0).toInt = 0 by first | with_reducible assumption | omega) (show 4 - (q_I r755.2 12 27 a0).toInt < 20 by first | with_reducible assumption | omega) i757) (fun r1068 hr1069 => ?_)
            obtain ⟨i1078, ⟨u1085, u1086, u1087⟩, p1079, p1080, p1081, p1082, p1083, p1084⟩ := hr1069
            have u1088 := kp_t u765 u1085
            have v1089 : q_V r1068 = q_V δ := (u1086).trans v766
            have v1090 := kr_t v767 u1087
            have f1091 := cb_12_4 i1078 k_a0
            have f1092 := cb_12_5 i1078 k_a0
            have f1093 := ti_b (q_I r1068 12 7 a0)
            have f1094 := cb_12_27 i1078 k_a0
            have f1095 := cb_12_26 i1078 k_a0
            refine ok_bind (k_X12_fine L hN (a0 := a0) k_a0 i1078) (fun r1096 hr1097 => ?_)
            obtain ⟨i1098, p1099, p1100, p1101⟩ := hr1097
            try rw [i1098]
            have f1102 := bo_l p1099
            have f1103 := ti_b r1096.1
            refine ok_ite (fun h1104 => ?_) (fun h1104 => ?_)
            · have c1105 : r1096.1.toInt = (0 : Int) := o_eq h1104
              unfold J_X12_thief_106
              refine ok_bind (k_X12_result L hN (a0 := a0) (x1 := (q_I r1068 12 24 a0)) k_a0 i1078) (fun r1106 hr1107 => ?_)
              obtain ⟨i1108, ⟨u1110, u1111, u1112, u1113⟩, p1109⟩ := hr1107
              have u1114 := kp_t u1088 u1110
              have v1115 : q_V r1106.2 = q_V δ := (u1111).trans v1089
              have v1116 := kr_t v1090 u1113
              have f1117 := ti_b r1106.1
              have f1119 : (q_I r1106.2 12 5 a0).toInt = (q_I r1068 12 5 a0).toInt := congrArg Int32.toInt (u1110 12 5 a0 (by decide))
              have ns1118 : NS ad a0 r1068 r1106.2 := ⟨u1113 112 (by decide) (by decide) (by decide), u1113 113 (by decide) (by decide) (by decide), u1113 114 (by decide) (by decide) (by decide), u1113 115 (by decide) (by decide) (by decide), u1113 116 (by decide) (by decide) (by decide), u1110 12 24 _ (by decide), u1110 12 25 _ (by decide), u1110 12 26 _ (by decide), u1110 12 27 _ (by decide), fun z => by omega⟩
              have f1120 : (q_I r1106.2 12 24 a0).toInt = (q_I r755.2 12 24 a0).toInt := ((show (q_I r1106.2 12 24 a0).toInt = (q_I r1068 12 24 a0).toInt from congrArg Int32.toInt (u1110 12 24 a0 (by decide))).trans (show (q_I r1068 12 24 a0).toInt = (q_I r755.2 12 24 a0).toInt from congrArg Int32.toInt (u1085 12 24 a0 (by decide))))
              refine ok_ite (fun h1121 => ?_) (fun h1121 => ?_)
              · have c1122 : r1106.1.toInt = (q_I r1106.2 12 24 a0).toInt := o_eq h1121
                obtain ⟨b1123, o1124, k1125, n1126⟩ := gO_12_28 L k_a0
                obtain rfl := gS_12_28 L k_a0 o1124
                refine ok_at o1124 ?_
                have t1127 := ti_tn (q_I r1106.2 12 24 a0)
                refine ok_gd (fun hc1128 => ?_) ?_
                · rcases hc1128 with hc1128 | hc1128
                  · have c1129 : (q_I r1106.2 12 24 a0).toInt < (0 : Int) := o_lt hc1128
                    omega
                  · omega
                have f1133 : (q_I r1106.2 12 25 a0).toInt = (q_I r1068 12 25 a0).toInt := congrArg Int32.toInt (u1110 12 25 a0 (by decide))
                have f1134 := cb_12_25 i1078 k_a0
                refine ok_bdv (fun d1130 e1131 => ?_)
                have i1132 : RI ad h.1 δ0 d1130 := by rw [e1131]; exact cr_112 L i1108 (show 0 ≤ (q_I r1106.2 12 25 a0).toInt by omega) (show (q_I r1106.2 12 25 a0).toInt ≤ 60 by omega)
                have u1135 := kp_N u1114 (show q_I d1130 = q_I r1106.2 by rw [e1131]; rfl)
                have v1136 : q_V d1130 = q_V δ := ((show q_V d1130 = q_V r1106.2 by rw [e1131]; rfl)).trans v1115
                have v1137 := kr_s L (by decide) v1116 e1131
                have f1141 : (q_I d1130 12 24 a0).toInt = (q_I r1106.2 12 24 a0).toInt := congrArg Int32.toInt (by rw [e1131]; rfl)
                first | (have q1143 := te_addc (c := 1) (n := 1) rfl (q_I d1130 12 24 a0) (by omega) (by omega); obtain ⟨f1144, f1145, f1146⟩ := q1143) | (obtain ⟨q1143, f1144, f1145, f1146⟩ := ti_addc (c := 1) (n := 1) rfl (q_I d1130 12 24 a0))
                refine ok_bdv (fun d1138 e1139 => ?_)
                have i1140 : RI ad h.1 δ0 d1138 := by rw [e1139]; exact cs_12_24 L i1132 k_a0 (show 0 ≤ ((q_I d1130 12 24 a0) + (1 : Int32)).toInt by omega) (show ((q_I d1130 12 24 a0) + (1 : Int32)).toInt ≤ 4 by omega)
                have u1147 := kp_I u1135 e1139
                have v1148 : q_V d1138 = q_V δ := ((show q_V d1138 = q_V d1130 by rw [e1139]; rfl)).trans v1136
                have v1149 := kr_N v1137 (show q_R d1138 = q_R d1130 by rw [e1139]; rfl)
                unfold J_X12_thief_146
                have ss1150 : NS ad a0 δ d1 := NS.t NS.r (NS.w e2 (by decide))
                have ss1151 : NS0 ad a0 δ r682.2 := NS0.t (NS.z ss1150) (NS.z ns698)
                have ss1152 : NS0 ad a0 δ r708 := NS0.t ss1151 ns728
                have ns1154 : NS ad a0 d749 r755.2 := NS.t NS.r ns773
                have ns1155 : NS ad a0 r1068 r1106.2 := NS.t NS.r ns1118
                have f1156 : (q_I d743 12 24 a0).toInt = (q_I r708 12 24 a0).toInt := ((show (q_I d743 12 24 a0).toInt = (q_I d737 12 24 a0).toInt from congrArg Int32.toInt (by rw [e744]; exact rI_o (by decide))).trans (show (q_I d737 12 24 a0).toInt = (q_I r708 12 24 a0).toInt from congrArg Int32.toInt (by rw [e738]; exact rI_o (by decide))))
                have f1157 : (q_I r1106.2 12 26 a0).toInt = (q_I r1068 12 26 a0).toInt := congrArg Int32.toInt (u1110 12 26 a0 (by decide))
                have ss1153 : TK ad a0 δ d1138 := TK.good L ss1152 e738 e744 e750 ns1154 p1084 (u1087 112 (by decide) (by decide) (by decide)) ns1155 (show (0 : Int) = 0 by omega) (show (0 : Int) = 0 by omega) (show (0 : Int) = 0 by omega) (by omega) e1131 e1139 (show (((q_I r1106.2 12 24 a0).toNatClampNeg : Nat) : Int) = (q_I δ 12 24 a0).toInt by omega) (show (q_I r1106.2 12 25 a0).toInt = (q_I r1106.2 12 25 a0).toInt by omega) (show ((q_I d1130 12 24 a0) + (1 : Int32)).toInt = (q_I δ 12 24 a0).toInt + 1 by omega) (show (q_I r1106.2 12 5 a0).toInt = -1 by omega) (show (q_I r1106.2 12 26 a0).toInt ≤ 500 by omega)
                have f1158 : (q_I d1138 12 2 a0).toInt = (q_I r708 12 2 a0).toInt := ((show (q_I d1138 12 2 a0).toInt = (q_I d1130 12 2 a0).toInt from congrArg Int32.toInt (by rw [e1139]; exact rI_o (by decide))).trans ((show (q_I d1130 12 2 a0).toInt = (q_I r1106.2 12 2 a0).toInt from congrArg Int32.toInt (by rw [e1131]; rfl)).trans ((show (q_I r1106.2 12 2 a0).toInt = (q_I r1068 12 2 a0).toInt from congrArg Int32.toInt (u1110 12 2 a0 (by decide))).trans ((show (q_I r1068 12 2 a0).toInt = (q_I r755.2 12 2 a0).toInt from congrArg Int32.toInt (u1085 12 2 a0 (by decide))).trans ((show (q_I r755.2 12 2 a0).toInt = (q_I d749 12 2 a0).toInt from congrArg Int32.toInt (u761 12 2 a0 (by decide))).trans ((show (q_I d749 12 2 a0).toInt = (q_I d743 12 2 a0).toInt from congrArg Int32.toInt (by rw [e750]; exact rI_o (by decide))).trans ((show (q_I d743 12 2 a0).toInt = (q_I d737 12 2 a0).toInt from congrArg Int32.toInt (by rw [e744]; exact rI_o (by decide))).trans (show (q_I d737 12 2 a0).toInt = (q_I r708 12 2 a0).toInt from congrArg Int32.toInt (by rw [e738]; exact rI_o (by decide))))))))))
                exact ok_some (show RI ad h.1 δ0 d1138 ∧ (kp [(12, 0), (12, 2), (12, 3), (12, 4), (12, 5), (12, 6), (12, 7), (12, 8), (12, 24), (12, 25), (12, 26), (12, 27)] δ d1138 ∧ q_V d1138 = q_V δ ∧ kr ad [100, 112, 113, 114, 115, 116, 117] δ d1138) ∧ TK ad a0 δ d1138 ∧ (0 ≤ (x1).toInt ∧ (x1).toInt ≤ (q_I δ 12 2 a0).toInt → (q_I d1138 12 2 a0).toInt = 0) ∧ ((x1).toInt < 0 ∨ (q_I δ 12 2 a0).toInt < (x1).toInt → (q_I d1138 12 2 a0).toInt = (q_I δ 12 2 a0).toInt) from ⟨i1140, ⟨kp_w (by decide) u1147, v1148, kr_w (by decide) v1149⟩, ss1153, by first | with_reducible assumption | omega, by first | with_reducible assumption | omega⟩)
              · have c1159 : r1106.1.toInt ≠ (q_I r1106.2 12 24 a0).toInt := o_ne h1121
                unfold J_X12_thief_146
                have ss1160 : NS ad a0 δ d1 := NS.t NS.r (NS.w e2 (by decide))
                have ss1161 : NS0 ad a0 δ r682.2 := NS0.t (NS.z ss1160) (NS.z ns698)
                have ss1162 : NS0 ad a0 δ r708 := NS0.t ss1161 ns728
                have ns1164 : NS ad a0 d749 r755.2 := NS.t NS.r ns773
                have ns1165 : NS ad a0 r1068 r1106.2 := NS.t NS.r ns1118
                have f1166 : (q_I d743 12 24 a0).toInt = (q_I r708 12 24 a0).toInt := ((show (q_I d743 12 24 a0).toInt = (q_I d737 12 24 a0).toInt from congrArg Int32.toInt (by rw [e744]; exact rI_o (by decide))).trans (show (q_I d737 12 24 a0).toInt = (q_I r708 12 24 a0).toInt from congrArg Int32.toInt (by rw [e738]; exact rI_o (by decide))))
                have ss1163 : TK ad a0 δ r1106.2 := TK.bad L ss1162 e738 e744 e750 ns1164 p1084 (u1087 112 (by decide) (by decide) (by decide)) ns1165 (show (0 : Int) = 0 by omega) (show (0 : Int) = 0 by omega) (show (0 : Int) = 0 by omega) (by omega)
                have f1167 : (q_I r1106.2 12 2 a0).toInt = (q_I r708 12 2 a0).toInt := ((show (q_I r1106.2 12 2 a0).toInt = (q_I r1068 12 2 a0).toInt from congrArg Int32.toInt (u1110 12 2 a0 (by decide))).trans ((show (q_I r1068 12 2 a0).toInt = (q_I r755.2 12 2 a0).toInt from congrArg Int32.toInt (u1085 12 2 a0 (by decide))).trans ((show (q_I r755.2 12 2 a0).toInt = (q_I d749 12 2 a0).toInt from congrArg Int32.toInt (u761 12 2 a0 (by decide))).trans ((show (q_I d749 12 2 a0).toInt = (q_I d743 12 2 a0).toInt from congrArg Int32.toInt (by rw [e750]; exact rI_o (by decide))).trans ((show (q_I d743 12 2 a0).toInt = (q_I d737 12 2 a0).toInt from congrArg Int32.toInt (by rw [e744]; exact rI_o (by decide))).trans (show (q_I d737 12 2 a0).toInt = (q_I r708 12 2 a0).toInt from congrArg Int32.toInt (by rw [e738]; exact rI_o (by decide))))))))
                exact ok_some (show RI ad h.1 δ0 r1106.2 ∧ (kp [(12, 0), (12, 2), (12, 3), (12, 4), (12, 5), (12, 6), (12, 7), (12, 8), (12, 24), (12, 25), (12, 26), (12, 27)] δ r1106.2 ∧ q_V r1106.2 = q_V δ ∧ kr ad [100, 112, 113, 114, 115, 116, 117] δ r1106.2) ∧ TK ad a0 δ r1106.2 ∧ (0 ≤ (x1).toInt ∧ (x1).toInt ≤ (q_I δ 12 2 a0).toInt → (q_I r1106.2 12 2 a0).toInt = 0) ∧ ((x1).toInt < 0 ∨ (q_I δ 12 2 a0).toInt < (x1).toInt → (q_I r1106.2 12 2 a0).toInt = (q_I δ 12 2 a0).toInt) from ⟨i1108, ⟨kp_w (by decide) u1114, v1115, kr_w (by decide) v1116⟩, ss1163, by first | with_reducible assumption | omega, by first | with_reducible assumption | omega⟩)
            · have c1168 : r1096.1.toInt ≠ (0 : Int) := o_ne h1104
              refine ok_bind (k_X12_isMore L hN (a0 := a0) k_a0 i1078) (fun r1169 hr1170 => ?_)
              obtain ⟨i1171, ⟨u1175, u1176, u1177, u1178⟩, p1172, p1173, p1174⟩ := hr1170
              have u1179 := kp_t u1088 u1175
              have v1180 : q_V r1169.2 = q_V δ := (u1176).trans v1089
              have v1181 := kr_t v1090 u1178
              have f1182 := bo_l p1172
              have f1183 := cb_12_4 i1171 k_a0
              have f1184 := ti_b r1169.1
              have f1185 : (q_I r1068 12 3 a0).toInt = (q_I d749 12 3 a0).toInt := ((show (q_I r1068 12 3 a0).toInt = (q_I r755.2 12 3 a0).toInt from congrArg Int32.toInt (u1085 12 3 a0 (by decide))).trans (show (q_I r755.2 12 3 a0).toInt = (q_I d749 12 3 a0).toInt from congrArg Int32.toInt (u761 12 3 a0 (by decide))))
              have f1187 : (q_I r1169.2 12 5 a0).toInt = (q_I r1068 12 5 a0).toInt := congrArg Int32.toInt (u1175 12 5 a0 (by decide))
              have ns1186 : NS ad a0 r1068 r1169.2 := ⟨u1178 112 (by decide) (by decide) (by decide), u1178 113 (by decide) (by decide) (by decide), u1178 114 (by decide) (by decide) (by decide), u1178 115 (by decide) (by decide) (by decide), u1178 116 (by decide) (by decide) (by decide), u1175 12 24 _ (by decide), u1175 12 25 _ (by decide), u1175 12 26 _ (by decide), u1175 12 27 _ (by decide), fun z => by omega⟩
              refine ok_ite (fun h1188 => ?_) (fun h1188 => ?_)
              · have c1189 : r1169.1.toInt = (0 : Int) := o_eq h1188
                unfold J_X12_thief_106
                refine ok_bind (k_X12_result L hN (a0 := a0) (x1 := (q_I r1169.2 12 24 a0)) k_a0 i1171) (fun r1190 hr1191 => ?_)
                obtain ⟨i1192, ⟨u1194, u1195, u1196, u1197⟩, p1193⟩ := hr1191
                have u1198 := kp_t u1179 u1194
                have v1199 : q_V r1190.2 = q_V δ := (u1195).trans v1180
                have v1200 := kr_t v1181 u1197
                have f1201 := ti_b r1190.1
                have f1203 : (q_I r1190.2 12 5 a0).toInt = (q_I r1169.2 12 5 a0).toInt := congrArg Int32.toInt (u1194 12 5 a0 (by decide))
                have ns1202 : NS ad a0 r1169.2 r1190.2 := ⟨u1197 112 (by decide) (by decide) (by decide), u1197 113 (by decide) (by decide) (by decide), u1197 114 (by decide) (by decide) (by decide), u1197 115 (by decide) (by decide) (by decide), u1197 116 (by decide) (by decide) (by decide), u1194 12 24 _ (by decide), u1194 12 25 _ (by decide), u1194 12 26 _ (by decide), u1194 12 27 _ (by decide), fun z => by omega⟩
                have f1204 : (q_I r1190.2 12 24 a0).toInt = (q_I r755.2 12 24 a0).toInt := ((show (q_I r1190.2 12 24 a0).toInt = (q_I r1169.2 12 24 a0).toInt from congrArg Int32.toInt (u1194 12 24 a0 (by decide))).trans ((show (q_I r1169.2 12 24 a0).toInt = (q_I r1068 12 24 a0).toInt from congrArg Int32.toInt (u1175 12 24 a0 (by decide))).trans (show (q_I r1068 12 24 a0).toInt = (q_I r755.2 12 24 a0).toInt from congrArg Int32.toInt (u1085 12 24 a0 (by decide)))))
                refine ok_ite (fun h1205 => ?_) (fun h1205 => ?_)
                · have c1206 : r1190.1.toInt = (q_I r1190.2 12 24 a0).toInt := o_eq h1205
                  obtain ⟨b1207, o1208, k1209, n1210⟩ := gO_12_28 L k_a0
                  obtain rfl := gS_12_28 L k_a0 o1208
                  refine ok_at o1208 ?_
                  have t1211 := ti_tn (q_I r1190.2 12 24 a0)
                  refine ok_gd (fun hc1212 => ?_) ?_
                  · rcases hc1212 with hc1212 | hc1212
                    · have c1213 : (q_I r1190.2 12 24 a0).toInt < (0 : Int) := o_lt hc1212
                      omega
                    · omega
                  have f1217 : (q_I r1190.2 12 25 a0).toInt = (q_I r1068 12 25 a0).toInt := ((show (q_I r1190.2 12 25 a0).toInt = (q_I r1169.2 12 25 a0).toInt from congrArg Int32.toInt (u1194 12 25 a0 (by decide))).trans (show (q_I r1169.2 12 25 a0).toInt = (q_I r1068 12 25 a0).toInt from congrArg Int32.toInt (u1175 12 25 a0 (by decide))))
                  have f1218 := cb_12_25 i1078 k_a0
                  refine ok_bdv (fun d1214 e1215 => ?_)
                  have i1216 : RI ad h.1 δ0 d1214 := by rw [e1215]; exact cr_112 L i1192 (show 0 ≤ (q_I r1190.2 12 25 a0).toInt by omega) (show (q_I r1190.2 12 25 a0).toInt ≤ 60 by omega)
                  have u1219 := kp_N u1198 (show q_I d1214 = q_I r1190.2 by rw [e1215]; rfl)
                  have v1220 : q_V d1214 = q_V δ := ((show q_V d1214 = q_V r1190.2 by rw [e1215]; rfl)).trans v1199
                  have v1221 := kr_s L (by decide) v1200 e1215
                  have f1225 : (q_I d1214 12 24 a0).toInt = (q_I r1190.2 12 24 a0).toInt := congrArg Int32.toInt (by rw [e1215]; rfl)
                  first | (have q1227 := te_addc (c := 1) (n := 1) rfl (q_I d1214 12 24 a0) (by omega) (by omega); obtain ⟨f1228, f1229, f1230⟩ := q1227) | (obtain ⟨q1227, f1228, f1229, f1230⟩ := ti_addc (c := 1) (n := 1) rfl (q_I d1214 12 24 a0))
                  refine ok_bdv (fun d1222 e1223 => ?_)
                  have i1224 : RI ad h.1 δ0 d1222 := by rw [e1223]; exact cs_12_24 L i1216 k_a0 (show 0 ≤ ((q_I d1214 12 24 a0) + (1 : Int32)).toInt by omega) (show ((q_I d1214 12 24 a0) + (1 : Int32)).toInt ≤ 4 by omega)
                  have u1231 := kp_I u1219 e1223
                  have v1232 : q_V d1222 = q_V δ := ((show q_V d1222 = q_V d1214 by rw [e1223]; rfl)).trans v1220
                  have v1233 := kr_N v1221 (show q_R d1222 = q_R d1214 by rw [e1223]; rfl)
                  unfold J_X12_thief_146
                  have ss1234 : NS ad a0 δ d1 := NS.t NS.r (NS.w e2 (by decide))
                  have ss1235 : NS0 ad a0 δ r682.2 := NS0.t (NS.z ss1234) (NS.z ns698)
                  have ss1236 : NS0 ad a0 δ r708 := NS0.t ss1235 ns728
                  have ns1238 : NS ad a0 d749 r755.2 := NS.t NS.r ns773
                  have ns1239 : NS ad a0 r1068 r1169.2 := NS.t NS.r ns1186
                  have ns1240 : NS ad a0 r1068 r1190.2 := NS.t ns1239 ns1202
                  have f1241 : (q_I d743 12 24 a0).toInt = (q_I r708 12 24 a0).toInt := ((show (q_I d743 12 24 a0).toInt = (q_I d737 12 24 a0).toInt from congrArg Int32.toInt (by rw [e744]; exact rI_o (by decide))).trans (show (q_I d737 12 24 a0).toInt = (q_I r708 12 24 a0).toInt from congrArg Int32.toInt (by rw [e738]; exact rI_o (by decide))))
                  have f1242 : (q_I r1190.2 12 26 a0).toInt = (q_I r1068 12 26 a0).toInt := ((show (q_I r1190.2 12 26 a0).toInt = (q_I r1169.2 12 26 a0).toInt from congrArg Int32.toInt (u1194 12 26 a0 (by decide))).trans (show (q_I r1169.2 12 26 a0).toInt = (q_I r1068 12 26 a0).toInt from congrArg Int32.toInt (u1175 12 26 a0 (by decide))))
                  have ss1237 : TK ad a0 δ d1222 := TK.good L ss1236 e738 e744 e750 ns1238 p1084 (u1087 112 (by decide) (by decide) (by decide)) ns1240 (show (0 : Int) = 0 by omega) (show (0 : Int) = 0 by omega) (show (0 : Int) = 0 by omega) (by omega) e1215 e1223 (show (((q_I r1190.2 12 24 a0).toNatClampNeg : Nat) : Int) = (q_I δ 12 24 a0).toInt by omega) (show (q_I r1190.2 12 25 a0).toInt = (q_I r1190.2 12 25 a0).toInt by omega) (show ((q_I d1214 12 24 a0) + (1 : Int32)).toInt = (q_I δ 12 24 a0).toInt + 1 by omega) (show (q_I r1190.2 12 5 a0).toInt = -1 by omega) (show (q_I r1190.2 12 26 a0).toInt ≤ 500 by omega)
                  have f1243 : (q_I d1222 12 2 a0).toInt = (q_I r708 12 2 a0).toInt := ((show (q_I d1222 12 2 a0).toInt = (q_I d1214 12 2 a0).toInt from congrArg Int32.toInt (by rw [e1223]; exact rI_o (by decide))).trans ((show (q_I d1214 12 2 a0).toInt = (q_I r1190.2 12 2 a0).toInt from congrArg Int32.toInt (by rw [e1215]; rfl)).trans ((show (q_I r1190.2 12 2 a0).toInt = (q_I r1169.2 12 2 a0).toInt from congrArg Int32.toInt (u1194 12 2 a0 (by decide))).trans ((show (q_I r1169.2 12 2 a0).toInt = (q_I r1068 12 2 a0).toInt from congrArg Int32.toInt (u1175 12 2 a0 (by decide))).trans ((show (q_I r1068 12 2 a0).toInt = (q_I r755.2 12 2 a0).toInt from congrArg Int32.toInt (u1085 12 2 a0 (by decide))).trans ((show (q_I r755.2 12 2 a0).toInt = (q_I d749 12 2 a0).toInt from congrArg Int32.toInt (u761 12 2 a0 (by decide))).trans ((show (q_I d749 12 2 a0).toInt = (q_I d743 12 2 a0).toInt from congrArg Int32.toInt (by rw [e750]; exact rI_o (by decide))).trans ((show (q_I d743 12 2 a0).toInt = (q_I d737 12 2 a0).toInt from congrArg Int32.toInt (by rw [e744]; exact rI_o (by decide))).trans (show (q_I d737 12 2 a0).toInt = (q_I r708 12 2 a0).toInt from congrArg Int32.toInt (by rw [e738]; exact rI_o (by decide)))))))))))
                  exact ok_some (show RI ad h.1 δ0 d1222 ∧ (kp [(12, 0), (12, 2), (12, 3), (12, 4), (12, 5), (12, 6), (12, 7), (12, 8), (12, 24), (12, 25), (12, 26), (12, 27)] δ d1222 ∧ q_V d1222 = q_V δ ∧ kr ad [100, 112, 113, 114, 115, 116, 117] δ d1222) ∧ TK ad a0 δ d1222 ∧ (0 ≤ (x1).toInt ∧ (x1).toInt ≤ (q_I δ 12 2 a0).toInt → (q_I d1222 12 2 a0).toInt = 0) ∧ ((x1).toInt < 0 ∨ (q_I δ 12 2 a0).toInt < (x1).toInt → (q_I d1222 12 2 a0).toInt = (q_I δ 12 2 a0).toInt) from ⟨i1224, ⟨kp_w (by decide) u1231, v1232, kr_w (by decide) v1233⟩, ss1237, by first | with_reducible assumption | omega, by first | with_reducible assumption | omega⟩)
                · have c1244 : r1190.1.toInt ≠ (q_I r1190.2 12 24 a0).toInt := o_ne h1205
                  unfold J_X12_thief_146
                  have ss1245 : NS ad a0 δ d1 := NS.t NS.r (NS.w e2 (by decide))
                  have ss1246 : NS0 ad a0 δ r682.2 := NS0.t (NS.z ss1245) (NS.z ns698)
                  have ss1247 : NS0 ad a0 δ r708 := NS0.t ss1246 ns728
                  have ns1249 : NS ad a0 d749 r755.2 := NS.t NS.r ns773
                  have ns1250 : NS ad a0 r1068 r1169.2 := NS.t NS.r ns1186
                  have ns1251 : NS ad a0 r1068 r1190.2 := NS.t ns1250 ns1202
                  have f1252 : (q_I d743 12 24 a0).toInt = (q_I r708 12 24 a0).toInt := ((show (q_I d743 12 24 a0).toInt = (q_I d737 12 24 a0).toInt from congrArg Int32.toInt (by rw [e744]; exact rI_o (by decide))).trans (show (q_I d737 12 24 a0).toInt = (q_I r708 12 24 a0).toInt from congrArg Int32.toInt (by rw [e738]; exact rI_o (by decide))))
                  have ss1248 : TK ad a0 δ r1190.2 := TK.bad L ss1247 e738 e744 e750 ns1249 p1084 (u1087 112 (by decide) (by decide) (by decide)) ns1251 (show (0 : Int) = 0 by omega) (show (0 : Int) = 0 by omega) (show (0 : Int) = 0 by omega) (by omega)
                  have f1253 : (q_I r1190.2 12 2 a0).toInt = (q_I r708 12 2 a0).toInt := ((show (q_I r1190.2 12 2 a0).toInt = (q_I r1169.2 12 2 a0).toInt from congrArg Int32.toInt (u1194 12 2 a0 (by decide))).trans ((show (q_I r1169.2 12 2 a0).toInt = (q_I r1068 12 2 a0).toInt from congrArg Int32.toInt (u1175 12 2 a0 (by decide))).trans ((show (q_I r1068 12 2 a0).toInt = (q_I r755.2 12 2 a0).toInt from congrArg Int32.toInt (u1085 12 2 a0 (by decide))).trans ((show (q_I r755.2 12 2 a0).toInt = (q_I d749 12 2 a0).toInt from congrArg Int32.toInt (u761 12 2 a0 (by decide))).trans ((show (q_I d749 12 2 a0).toInt = (q_I d743 12 2 a0).toInt from congrArg Int32.toInt (by rw [e750]; exact rI_o (by decide))).trans ((show (q_I d743 12 2 a0).toInt = (q_I d737 12 2 a0).toInt from congrArg Int32.toInt (by rw [e744]; exact rI_o (by decide))).trans (show (q_I d737 12 2 a0).toInt = (q_I r708 12 2 a0).toInt from congrArg Int32.toInt (by rw [e738]; exact rI_o (by decide)))))))))
                  exact ok_some (show RI ad h.1 δ0 r1190.2 ∧ (kp [(12, 0), (12, 2), (12, 3), (12, 4), (12, 5), (12, 6), (12, 7), (12, 8), (12, 24), (12, 25), (12, 26), (12, 27)] δ r1190.2 ∧ q_V r1190.2 = q_V δ ∧ kr ad [100, 112, 113, 114, 115, 116, 117] δ r1190.2) ∧ TK ad a0 δ r1190.2 ∧ (0 ≤ (x1).toInt ∧ (x1).toInt ≤ (q_I δ 12 2 a0).toInt → (q_I r1190.2 12 2 a0).toInt = 0) ∧ ((x1).toInt < 0 ∨ (q_I δ 12 2 a0).toInt < (x1).toInt → (q_I r1190.2 12 2 a0).toInt = (q_I δ 12 2 a0).toInt) from ⟨i1192, ⟨kp_w (by decide) u1198, v1199, kr_w (by decide) v1200⟩, ss1248, by first | with_reducible assumption | omega, by first | with_reducible assumption | omega⟩)
              · have c1254 : r1169.1.toInt ≠ (0 : Int) := o_ne h1188
                refine ok_bind (k_X12_wrong L hN (a0 := a0) (x1 := (1 : Int32)) (x2 := (q_I r1169.2 12 4 a0)) k_a0 (show 0 ≤ ((q_I r1169.2 12 4 a0)).toInt by first | with_reducible assumption | omega) (show ((q_I r1169.2 12 4 a0)).toInt ≤ 500 by first | with_reducible assumption | omega) (show 0 ≤ (1 : Int) by first | with_reducible assumption | omega) (show (1 : Int) ≤ 4 by first | with_reducible assumption | omega) i1171) (fun r1255 hr1256 => ?_)
                obtain ⟨i1257, ⟨u1260, u1261, u1262, u1263⟩, p1258, p1259⟩ := hr1256
                have u1264 := kp_t u1179 u1260
                have v1265 : q_V r1255 = q_V δ := (u1261).trans v1180
                have v1266 := kr_t v1181 u1263
                have f1267 := cb_12_5 i1257 k_a0
                have ns1268 : NS ad a0 r1169.2 r1255 := ⟨u1263 112 (by decide) (by decide) (by decide), u1263 113 (by decide) (by decide) (by decide), u1263 114 (by decide) (by decide) (by decide), u1263 115 (by decide) (by decide) (by decide), u1263 116 (by decide) (by decide) (by decide), u1260 12 24 _ (by decide), u1260 12 25 _ (by decide), u1260 12 26 _ (by decide), u1260 12 27 _ (by decide), fun z => by omega⟩
                unfold J_X12_thief_106
                refine ok_bind (k_X12_result L hN (a0 := a0) (x1 := (q_I r1255 12 24 a0)) k_a0 i1257) (fun r1269 hr1270 => ?_)
                obtain ⟨i1271, ⟨u1273, u1274, u1275, u1276⟩, p1272⟩ := hr1270
                have u1277 := kp_t u1264 u1273
                have v1278 : q_V r1269.2 = q_V δ := (u1274).trans v1265
                have v1279 := kr_t v1266 u1276
                have f1280 := ti_b r1269.1
                have f1282 : (q_I r1269.2 12 5 a0).toInt = (q_I r1255 12 5 a0).toInt := congrArg Int32.toInt (u1273 12 5 a0 (by decide))
                have ns1281 : NS ad a0 r1255 r1269.2 := ⟨u1276 112 (by decide) (by decide) (by decide), u1276 113 (by decide) (by decide) (by decide), u1276 114 (by decide) (by decide) (by decide), u1276 115 (by decide) (by decide) (by decide), u1276 116 (by decide) (by decide) (by decide), u1273 12 24 _ (by decide), u1273 12 25 _ (by decide), u1273 12 26 _ (by decide), u1273 12 27 _ (by decide), fun z => by omega⟩
                have f1283 : (q_I r1269.2 12 24 a0).toInt = (q_I r755.2 12 24 a0).toInt := ((show (q_I r1269.2 12 24 a0).toInt = (q_I r1255 12 24 a0).toInt from congrArg Int32.toInt (u1273 12 24 a0 (by decide))).trans ((show (q_I r1255 12 24 a0).toInt = (q_I r1169.2 12 24 a0).toInt from congrArg Int32.toInt (u1260 12 24 a0 (by decide))).trans ((show (q_I r1169.2 12 24 a0).toInt = (q_I r1068 12 24 a0).toInt from congrArg Int32.toInt (u1175 12 24 a0 (by decide))).trans (show (q_I r1068 12 24 a0).toInt = (q_I r755.2 12 24 a0).toInt from congrArg Int32.toInt (u1085 12 24 a0 (by decide))))))
                refine ok_ite (fun h1284 => ?_) (fun h1284 => ?_)
                · have c1285 : r1269.1.toInt = (q_I r1269.2 12 24 a0).toInt := o_eq h1284
                  obtain ⟨b1286, o1287, k1288, n1289⟩ := gO_12_28 L k_a0
                  obtain rfl := gS_12_28 L k_a0 o1287
                  refine ok_at o1287 ?_
                  have t1290 := ti_tn (q_I r1269.2 12 24 a0)
                  refine ok_gd (fun hc1291 => ?_) ?_
                  · rcases hc1291 with hc1291 | hc1291
                    · have c1292 : (q_I r1269.2 12 24 a0).toInt < (0 : Int) := o_lt hc1291
                      omega
                    · omega
                  have f1296 : (q_I r1269.2 12 25 a0).toInt = (q_I r1068 12 25 a0).toInt := ((show (q_I r1269.2 12 25 a0).toInt = (q_I r1255 12 25 a0).toInt from congrArg Int32.toInt (u1273 12 25 a0 (by decide))).trans ((show (q_I r1255 12 25 a0).toInt = (q_I r1169.2 12 25 a0).toInt from congrArg Int32.toInt (u1260 12 25 a0 (by decide))).trans (show (q_I r1169.2 12 25 a0).toInt = (q_I r1068 12 25 a0).toInt from congrArg Int32.toInt (u1175 12 25 a0 (by decide)))))
                  have f1297 := cb_12_25 i1078 k_a0
                  refine ok_bdv (fun d1293 e1294 => ?_)
                  have i1295 : RI ad h.1 δ0 d1293 := by rw [e1294]; exact cr_112 L i1271 (show 0 ≤ (q_I r1269.2 12 25 a0).toInt by omega) (show (q_I r1269.2 12 25 a0).toInt ≤ 60 by omega)
                  have u1298 := kp_N u1277 (show q_I d1293 = q_I r1269.2 by rw [e1294]; rfl)
                  have v1299 : q_V d1293 = q_V δ := ((show q_V d1293 = q_V r1269.2 by rw [e1294]; rfl)).trans v1278
                  have v1300 := kr_s L (by decide) v1279 e1294
                  have f1304 : (q_I d1293 12 24 a0).toInt = (q_I r1269.2 12 24 a0).toInt := congrArg Int32.toInt (by rw [e1294]; rfl)
                  first | (have q1306 := te_addc (c := 1) (n := 1) rfl (q_I d1293 12 24 a0) (by omega) (by omega); obtain ⟨f1307, f1308, f1309⟩ := q1306) | (obtain ⟨q1306, f1307, f1308, f1309⟩ := ti_addc (c := 1) (n := 1) rfl (q_I d1293 12 24 a0))
                  refine ok_bdv (fun d1301 e1302 => ?_)
                  have i1303 : RI ad h.1 δ0 d1301 := by rw [e1302]; exact cs_12_24 L i1295 k_a0 (show 0 ≤ ((q_I d1293 12 24 a0) + (1 : Int32)).toInt by omega) (show ((q_I d1293 12 24 a0) + (1 : Int32)).toInt ≤ 4 by omega)
                  have u1310 := kp_I u1298 e1302
                  have v1311 : q_V d1301 = q_V δ := ((show q_V d1301 = q_V d1293 by rw [e1302]; rfl)).trans v1299
                  have v1312 := kr_N v1300 (show q_R d1301 = q_R d1293 by rw [e1302]; rfl)
                  unfold J_X12_thief_146
                  have ss1313 : NS ad a0 δ d1 := NS.t NS.r (NS.w e2 (by decide))
                  have ss1314 : NS0 ad a0 δ r682.2 := NS0.t (NS.z ss1313) (NS.z ns698)
                  have ss1315 : NS0 ad a0 δ r708 := NS0.t ss1314 ns728
                  have ns1317 : NS ad a0 d749 r755.2 := NS.t NS.r ns773
                  have ns1318 : NS ad a0 r1068 r1169.2 := NS.t NS.r ns1186
                  have ns1319 : NS ad a0 r1068 r1255 := NS.t ns1318 ns1268
                  have ns1320 : NS ad a0 r1068 r1269.2 := NS.t ns1319 ns1281
                  have f1321 : (q_I d743 12 24 a0).toInt = (q_I r708 12 24 a0).toInt := ((show (q_I d743 12 24 a0).toInt = (q_I d737 12 24 a0).toInt from congrArg Int32.toInt (by rw [e744]; exact rI_o (by decide))).trans (show (q_I d737 12 24 a0).toInt = (q_I r708 12 24 a0).toInt from congrArg Int32.toInt (by rw [e738]; exact rI_o (by decide))))
                  have f1322 : (q_I r1269.2 12 26 a0).toInt = (q_I r1068 12 26 a0).toInt := ((show (q_I r1269.2 12 26 a0).toInt = (q_I r1255 12 26 a0).toInt from congrArg Int32.toInt (u1273 12 26 a0 (by decide))).trans ((show (q_I r1255 12 26 a0).toInt = (q_I r1169.2 12 26 a0).toInt from congrArg Int32.toInt (u1260 12 26 a0 (by decide))).trans (show (q_I r1169.2 12 26 a0).toInt = (q_I r1068 12 26 a0).toInt from congrArg Int32.toInt (u1175 12 26 a0 (by decide)))))
                  have ss1316 : TK ad a0 δ d1301 := TK.good L ss1315 e738 e744 e750 ns1317 p1084 (u1087 112 (by decide) (by decide) (by decide)) ns1320 (show (0 : Int) = 0 by omega) (show (0 : Int) = 0 by omega) (show (0 : Int) = 0 by omega) (by omega) e1294 e1302 (show (((q_I r1269.2 12 24 a0).toNatClampNeg : Nat) : Int) = (q_I δ 12 24 a0).toInt by omega) (show (q_I r1269.2 12 25 a0).toInt = (q_I r1269.2 12 25 a0).toInt by omega) (show ((q_I d1293 12 24 a0) + (1 : Int32)).toInt = (q_I δ 12 24 a0).toInt + 1 by omega) (show (q_I r1269.2 12 5 a0).toInt = -1 by omega) (show (q_I r1269.2 12 26 a0).toInt ≤ 500 by omega)
                  have f1323 : (q_I d1301 12 2 a0).toInt = (q_I r708 12 2 a0).toInt := ((show (q_I d1301 12 2 a0).toInt = (q_I d1293 12 2 a0).toInt from congrArg Int32.toInt (by rw [e1302]; exact rI_o (by decide))).trans ((show (q_I d1293 12 2 a0).toInt = (q_I r1269.2 12 2 a0).toInt from congrArg Int32.toInt (by rw [e1294]; rfl)).trans ((show (q_I r1269.2 12 2 a0).toInt = (q_I r1255 12 2 a0).toInt from congrArg Int32.toInt (u1273 12 2 a0 (by decide))).trans ((show (q_I r1255 12 2 a0).toInt = (q_I r1169.2 12 2 a0).toInt from congrArg Int32.toInt (u1260 12 2 a0 (by decide))).trans ((show (q_I r1169.2 12 2 a0).toInt = (q_I r1068 12 2 a0).toInt from congrArg Int32.toInt (u1175 12 2 a0 (by decide))).trans ((show (q_I r1068 12 2 a0).toInt = (q_I r755.2 12 2 a0).toInt from congrArg Int32.toInt (u1085 12 2 a0 (by decide))).trans ((show (q_I r755.2 12 2 a0).toInt = (q_I d749 12 2 a0).toInt from congrArg Int32.toInt (u761 12 2 a0 (by decide))).trans ((show (q_I d749 12 2 a0).toInt = (q_I d743 12 2 a0).toInt from congrArg Int32.toInt (by rw [e750]; exact rI_o (by decide))).trans ((show (q_I d743 12 2 a0).toInt = (q_I d737 12 2 a0).toInt from congrArg Int32.toInt (by rw [e744]; exact rI_o (by decide))).trans (show (q_I d737 12 2 a0).toInt = (q_I r708 12 2 a0).toInt from congrArg Int32.toInt (by rw [e738]; exact rI_o (by decide))))))))))))
                  exact ok_some (show RI ad h.1 δ0 d1301 ∧ (kp [(12, 0), (12, 2), (12, 3), (12, 4), (12, 5), (12, 6), (12, 7), (12, 8), (12, 24), (12, 25), (12, 26), (12, 27)] δ d1301 ∧ q_V d1301 = q_V δ ∧ kr ad [100, 112, 113, 114, 115, 116, 117] δ d1301) ∧ TK ad a0 δ d1301 ∧ (0 ≤ (x1).toInt ∧ (x1).toInt ≤ (q_I δ 12 2 a0).toInt → (q_I d1301 12 2 a0).toInt = 0) ∧ ((x1).toInt < 0 ∨ (q_I δ 12 2 a0).toInt < (x1).toInt → (q_I d1301 12 2 a0).toInt = (q_I δ 12 2 a0).toInt) from ⟨i1303, ⟨kp_w (by decide) u1310, v1311, kr_w (by decide) v1312⟩, ss1316, by first | with_reducible assumption | omega, by first | with_reducible assumption | omega⟩)
                · have c1324 : r1269.1.toInt ≠ (q_I r1269.2 12 24 a0).toInt := o_ne h1284
                  unfold J_X12_thief_146
                  have ss1325 : NS ad a0 δ d1 := NS.t NS.r (NS.w e2 (by decide))
                  have ss1326 : NS0 ad a0 δ r682.2 := NS0.t (NS.z ss1325) (NS.z ns698)
                  have ss1327 : NS0 ad a0 δ r708 := NS0.t ss1326 ns728
                  have ns1329 : NS ad a0 d749 r755.2 := NS.t NS.r ns773
                  have ns1330 : NS ad a0 r1068 r1169.2 := NS.t NS.r ns1186
                  have ns1331 : NS ad a0 r1068 r1255 := NS.t ns1330 ns1268
                  have ns1332 : NS ad a0 r1068 r1269.2 := NS.t ns1331 ns1281
                  have f1333 : (q_I d743 12 24 a0).toInt = (q_I r708 12 24 a0).toInt := ((show (q_I d743 12 24 a0).toInt = (q_I d737 12 24 a0).toInt from congrArg Int32.toInt (by rw [e744]; exact rI_o (by decide))).trans (show (q_I d737 12 24 a0).toInt = (q_I r708 12 24 a0).toInt from congrArg Int32.toInt (by rw [e738]; exact rI_o (by decide))))
                  have ss1328 : TK ad a0 δ r1269.2 := TK.bad L ss1327 e738 e744 e750 ns1329 p1084 (u1087 112 (by decide) (by decide) (by decide)) ns1332 (show (0 : Int) = 0 by omega) (show (0 : Int) = 0 by omega) (show (0 : Int) = 0 by omega) (by omega)
                  have f1334 : (q_I r1269.2 12 2 a0).toInt = (q_I r708 12 2 a0).toInt := ((show (q_I r1269.2 12 2 a0).toInt = (q_I r1255 12 2 a0).toInt from congrArg Int32.toInt (u1273 12 2 a0 (by decide))).trans ((show (q_I r1255 12 2 a0).toInt = (q_I r1169.2 12 2 a0).toInt from congrArg Int32.toInt (u1260 12 2 a0 (by decide))).trans ((show (q_I r1169.2 12 2 a0).toInt = (q_I r1068 12 2 a0).toInt from congrArg Int32.toInt (u1175 12 2 a0 (by decide))).trans ((show (q_I r1068 12 2 a0).toInt = (q_I r755.2 12 2 a0).toInt from congrArg Int32.toInt (u1085 12 2 a0 (by decide))).trans ((show (q_I r755.2 12 2 a0).toInt = (q_I d749 12 2 a0).toInt from congrArg Int32.toInt (u761 12 2 a0 (by decide))).trans ((show (q_I d749 12 2 a0).toInt = (q_I d743 12 2 a0).toInt from congrArg Int32.toInt (by rw [e750]; exact rI_o (by decide))).trans ((show (q_I d743 12 2 a0).toInt = (q_I d737 12 2 a0).toInt from congrArg Int32.toInt (by rw [e744]; exact rI_o (by decide))).trans (show (q_I d737 12 2 a0).toInt = (q_I r708 12 2 a0).toInt from congrArg Int32.toInt (by rw [e738]; exact rI_o (by decide))))))))))
                  exact ok_some (show RI ad h.1 δ0 r1269.2 ∧ (kp [(12, 0), (12, 2), (12, 3), (12, 4), (12, 5), (12, 6), (12, 7), (12, 8), (12, 24), (12, 25), (12, 26), (12, 27)] δ r1269.2 ∧ q_V r1269.2 = q_V δ ∧ kr ad [100, 112, 113, 114, 115, 116, 117] δ r1269.2) ∧ TK ad a0 δ r1269.2 ∧ (0 ≤ (x1).toInt ∧ (x1).toInt ≤ (q_I δ 12 2 a0).toInt → (q_I r1269.2 12 2 a0).toInt = 0) ∧ ((x1).toInt < 0 ∨ (q_I δ 12 2 a0).toInt < (x1).toInt → (q_I r1269.2 12 2 a0).toInt = (q_I δ 12 2 a0).toInt) from ⟨i1271, ⟨kp_w (by decide) u1277, v1278, kr_w (by decide) v1279⟩, ss1328, by first | with_reducible assumption | omega, by first | with_reducible assumption | omega⟩)
    · have c1335 : x1.toInt ≤ (q_I d1 12 2 a0).toInt := o_nlt h680
      unfold J_X12_thief_23
      refine ok_bind (k_X12_may L hN (a0 := a0) (x1 := (1 : Int32)) (x2 := (1 : Int32)) (x3 := (2 : Int32)) k_a0 (show (1 : Int) ≠ 0 by first | with_reducible assumption | omega) (show 0 ≤ (2 : Int) by first | with_reducible assumption | omega) (show (2 : Int) ≤ 2 by first | with_reducible assumption | omega) i3) (fun r1336 hr1337 => ?_)
      obtain ⟨i1338, ⟨u1342, u1343, u1344⟩, p1339, p1340, p1341⟩ := hr1337
      have u1345 := kp_t u4 u1342
      have v1346 : q_V r1336.2 = q_V δ := (u1343).trans v5
      have v1347 := kr_t v6 u1344
      have f1348 := bo_l p1339
      have f1349 := ti_b r1336.1
      replace p1340 : ((r1336.1).toInt = 1 → (1 : Int) ≠ 0) := p1340
      have f1350 := ti_b (q_I d1 12 0 a0)
      have f1351 : (q_I d1 12 0 a0).toInt = (0 : Int) := congrArg Int32.toInt (show q_I d1 12 0 a0 = (0 : Int32) by rw [e2]; exact rI_s)
      replace p1341 : ((q_I d1 12 0 a0).toInt = 0 → (r1336.1).toInt = 0 → (1 : Int) = 0) := p1341
      have f1353 : (q_I r1336.2 12 5 a0).toInt = (q_I δ 12 5 a0).toInt := ((show (q_I r1336.2 12 5 a0).toInt = (q_I d1 12 5 a0).toInt from congrArg Int32.toInt (u1342 12 5 a0 (by decide))).trans (show (q_I d1 12 5 a0).toInt = (q_I δ 12 5 a0).toInt from congrArg Int32.toInt (by rw [e2]; exact rI_o (by decide))))
      have f1354 := cb_12_5 I k_a0
      have f1355 : (q_I d1 12 5 a0).toInt = (q_I δ 12 5 a0).toInt := congrArg Int32.toInt (by rw [e2]; exact rI_o (by decide))
      have ns1352 : NS ad a0 d1 r1336.2 := ⟨u1344 112 (by decide) (by decide) (by decide), u1344 113 (by decide) (by decide) (by decide), u1344 114 (by decide) (by decide) (by decide), u1344 115 (by decide) (by decide) (by decide), u1344 116 (by decide) (by decide) (by decide), u1342 12 24 _ (by decide), u1342 12 25 _ (by decide), u1342 12 26 _ (by decide), u1342 12 27 _ (by decide), fun z => by omega⟩
      refine ok_ite (fun h1356 => ?_) (fun h1356 => ?_)
      · have c1357 : r1336.1.toInt = (0 : Int) := o_eq h1356
        have ss1358 : NS ad a0 δ d1 := NS.t NS.r (NS.w e2 (by decide))
        have ss1359 : NS0 ad a0 δ r1336.2 := NS0.t (NS.z ss1358) (NS.z ns1352)
        have f1360 : (q_I r1336.2 12 2 a0).toInt = (q_I d1 12 2 a0).toInt := congrArg Int32.toInt (u1342 12 2 a0 (by decide))
        exact ok_some (show RI ad h.1 δ0 r1336.2 ∧ (kp [(12, 0), (12, 2), (12, 3), (12, 4), (12, 5), (12, 6), (12, 7), (12, 8), (12, 24), (12, 25), (12, 26), (12, 27)] δ r1336.2 ∧ q_V r1336.2 = q_V δ ∧ kr ad [100, 112, 113, 114, 115, 116, 117] δ r1336.2) ∧ TK ad a0 δ r1336.2 ∧ (0 ≤ (x1).toInt ∧ (x1).toInt ≤ (q_I δ 12 2 a0).toInt → (q_I r1336.2 12 2 a0).toInt = 0) ∧ ((x1).toInt < 0 ∨ (q_I δ 12 2 a0).toInt < (x1).toInt → (q_I r1336.2 12 2 a0).toInt = (q_I δ 12 2 a0).toInt) from ⟨i1338, ⟨kp_w (by decide) u1345, v1346, kr_w (by decide) v1347⟩, TK.n ss1359, by first | with_reducible assumption | omega, by first | with_reducible assumption | omega⟩)
      · have c1361 : r1336.1.toInt ≠ (0 : Int) := o_ne h1356
        refine ok_bind (k_X12_begins L hN (a0 := a0) (x1 := x1) k_a0 (show 0 ≤ (x1).toInt by first | with_reducible assumption | omega) (show (x1).toInt ≤ 500 by first | with_reducible assumption | omega) i1338) (fun r1362 hr1363 => ?_)
        obtain ⟨i1364, ⟨u1370, u1371, u1372, u1373⟩, p1365, p1366, p1367, p1368, p1369⟩ := hr1363
        have u1374 := kp_t u1345 u1370
        have v1375 : q_V r1362 = q_V δ := (u1371).trans v1346
        have v1376 := kr_t v1347 u1373
        have f1377 := cb_12_2 i1364 k_a0
        have f1378 := cb_12_4 i1364 k_a0
        have f1379 := cb_12_3 i1364 k_a0
        have f1380 := cb_12_5 i1364 k_a0
        have f1381 := ti_b (q_I r1362 12 7 a0)
        have ns1382 : NS0 ad a0 r1336.2 r1362 := ⟨u1373 112 (by decide) (by decide) (by decide), u1373 113 (by decide) (by decide) (by decide), u1373 114 (by decide) (by decide) (by decide), u1373 115 (by decide) (by decide) (by decide), u1373 116 (by decide) (by decide) (by decide), u1370 12 24 _ (by decide)⟩
        have f1383 : (q_I r1362 12 24 a0).toInt = (q_I δ 12 24 a0).toInt := ((show (q_I r1362 12 24 a0).toInt = (q_I r1336.2 12 24 a0).toInt from congrArg Int32.toInt (u1370 12 24 a0 (by decide))).trans ((show (q_I r1336.2 12 24 a0).toInt = (q_I d1 12 24 a0).toInt from congrArg Int32.toInt (u1342 12 24 a0 (by decide))).trans (show (q_I d1 12 24 a0).toInt = (q_I δ 12 24 a0).toInt from congrArg Int32.toInt (by rw [e2]; exact rI_o (by decide)))))
        have f1384 := cb_12_24 I k_a0
        refine ok_ite (fun h1385 => ?_) (fun h1385 => ?_)
        · have c1386 : (q_I r1362 12 24 a0).toInt = (4 : Int) := o_eq h1385
          have ss1387 : NS ad a0 δ d1 := NS.t NS.r (NS.w e2 (by decide))
          have ss1388 : NS0 ad a0 δ r1336.2 := NS0.t (NS.z ss1387) (NS.z ns1352)
          have ss1389 : NS0 ad a0 δ r1362 := NS0.t ss1388 ns1382
          exact ok_some (show RI ad h.1 δ0 r1362 ∧ (kp [(12, 0), (12, 2), (12, 3), (12, 4), (12, 5), (12, 6), (12, 7), (12, 8), (12, 24), (12, 25), (12, 26), (12, 27)] δ r1362 ∧ q_V r1362 = q_V δ ∧ kr ad [100, 112, 113, 114, 115, 116, 117] δ r1362) ∧ TK ad a0 δ r1362 ∧ (0 ≤ (x1).toInt ∧ (x1).toInt ≤ (q_I δ 12 2 a0).toInt → (q_I r1362 12 2 a0).toInt = 0) ∧ ((x1).toInt < 0 ∨ (q_I δ 12 2 a0).toInt < (x1).toInt → (q_I r1362 12 2 a0).toInt = (q_I δ 12 2 a0).toInt) from ⟨i1364, ⟨kp_w (by decide) u1374, v1375, kr_w (by decide) v1376⟩, TK.n ss1389, by first | with_reducible assumption | omega, by first | with_reducible assumption | omega⟩)
        · have c1390 : (q_I r1362 12 24 a0).toInt ≠ (4 : Int) := o_ne h1385
          refine ok_bdv (fun d1391 e1392 => ?_)
          have i1393 : RI ad h.1 δ0 d1391 := by rw [e1392]; exact cs_12_25 L i1364 k_a0 (show 0 ≤ (0 : Int) by omega) (show (0 : Int) ≤ 60 by omega)
          have u1394 := kp_I u1374 e1392
          have v1395 : q_V d1391 = q_V δ := ((show q_V d1391 = q_V r1362 by rw [e1392]; rfl)).trans v1375
          have v1396 := kr_N v1376 (show q_R d1391 = q_R r1362 by rw [e1392]; rfl)
          refine ok_bdv (fun d1397 e1398 => ?_)
          have i1399 : RI ad h.1 δ0 d1397 := by rw [e1398]; exact cs_12_26 L i1393 k_a0 (show 0 ≤ (0 : Int) by omega) (show (0 : Int) ≤ 500 by omega)
          have u1400 := kp_I u1394 e1398
          have v1401 : q_V d1397 = q_V δ := ((show q_V d1397 = q_V d1391 by rw [e1398]; rfl)).trans v1395
          have v1402 := kr_N v1396 (show q_R d1397 = q_R d1391 by rw [e1398]; rfl)
          refine ok_bdv (fun d1403 e1404 => ?_)
          have i1405 : RI ad h.1 δ0 d1403 := by rw [e1404]; exact cs_12_27 L i1399 k_a0 (show 0 ≤ (0 : Int) by omega) (show (0 : Int) ≤ 3 by omega)
          have u1406 := kp_I u1400 e1404
          have v1407 : q_V d1403 = q_V δ := ((show q_V d1403 = q_V d1397 by rw [e1404]; rfl)).trans v1401
          have v1408 := kr_N v1402 (show q_R d1403 = q_R d1397 by rw [e1404]; rfl)
          refine ok_bind (k_X12_isMore L hN (a0 := a0) k_a0 i1405) (fun r1409 hr1410 => ?_)
          obtain ⟨i1411, ⟨u1415, u1416, u1417, u1418⟩, p1412, p1413, p1414⟩ := hr1410
          have u1419 := kp_t u1406 u1415
          have v1420 : q_V r1409.2 = q_V δ := (u1416).trans v1407
          have v1421 := kr_t v1408 u1418
          have f1422 := bo_l p1412
          have f1423 : (q_I d1403 12 4 a0).toInt = (q_I r1362 12 4 a0).toInt := ((show (q_I d1403 12 4 a0).toInt = (q_I d1397 12 4 a0).toInt from congrArg Int32.toInt (by rw [e1404]; exact rI_o (by decide))).trans ((show (q_I d1397 12 4 a0).toInt = (q_I d1391 12 4 a0).toInt from congrArg Int32.toInt (by rw [e1398]; exact rI_o (by decide))).trans (show (q_I d1391 12 4 a0).toInt = (q_I r1362 12 4 a0).toInt from congrArg Int32.toInt (by rw [e1392]; exact rI_o (by decide)))))
          have f1424 := cb_12_4 i1411 k_a0
          have f1425 := ti_b r1409.1
          have f1426 : (q_I d1403 12 3 a0).toInt = (q_I r1362 12 3 a0).toInt := ((show (q_I d1403 12 3 a0).toInt = (q_I d1397 12 3 a0).toInt from congrArg Int32.toInt (by rw [e1404]; exact rI_o (by decide))).trans ((show (q_I d1397 12 3 a0).toInt = (q_I d1391 12 3 a0).toInt from congrArg Int32.toInt (by rw [e1398]; exact rI_o (by decide))).trans (show (q_I d1391 12 3 a0).toInt = (q_I r1362 12 3 a0).toInt from congrArg Int32.toInt (by rw [e1392]; exact rI_o (by decide)))))
          have f1428 : (q_I r1409.2 12 5 a0).toInt = (q_I r1362 12 5 a0).toInt := ((show (q_I r1409.2 12 5 a0).toInt = (q_I d1403 12 5 a0).toInt from congrArg Int32.toInt (u1415 12 5 a0 (by decide))).trans ((show (q_I d1403 12 5 a0).toInt = (q_I d1397 12 5 a0).toInt from congrArg Int32.toInt (by rw [e1404]; exact rI_o (by decide))).trans ((show (q_I d1397 12 5 a0).toInt = (q_I d1391 12 5 a0).toInt from congrArg Int32.toInt (by rw [e1398]; exact rI_o (by decide))).trans (show (q_I d1391 12 5 a0).toInt = (q_I r1362 12 5 a0).toInt from congrArg Int32.toInt (by rw [e1392]; exact rI_o (by decide))))))
          have f1429 : (q_I d1403 12 5 a0).toInt = (q_I r1362 12 5 a0).toInt := ((show (q_I d1403 12 5 a0).toInt = (q_I d1397 12 5 a0).toInt from congrArg Int32.toInt (by rw [e1404]; exact rI_o (by decide))).trans ((show (q_I d1397 12 5 a0).toInt = (q_I d1391 12 5 a0).toInt from congrArg Int32.toInt (by rw [e1398]; exact rI_o (by decide))).trans (show (q_I d1391 12 5 a0).toInt = (q_I r1362 12 5 a0).toInt from congrArg Int32.toInt (by rw [e1392]; exact rI_o (by decide)))))
          have ns1427 : NS ad a0 d1403 r1409.2 := ⟨u1418 112 (by decide) (by decide) (by decide), u1418 113 (by decide) (by decide) (by decide), u1418 114 (by decide) (by decide) (by decide), u1418 115 (by decide) (by decide) (by decide), u1418 116 (by decide) (by decide) (by decide), u1415 12 24 _ (by decide), u1415 12 25 _ (by decide), u1415 12 26 _ (by decide), u1415 12 27 _ (by decide), fun z => by omega⟩
          refine ok_ite (fun h1430 => ?_) (fun h1430 => ?_)
          · have c1431 : r1409.1.toInt = (0 : Int) := o_eq h1430
            have f1434 : (q_I r1409.2 12 3 a0).toInt = (q_I d1403 12 3 a0).toInt := congrArg Int32.toInt (u1415 12 3 a0 (by decide))
            refine ok_bind (k_X12_wrong L hN (a0 := a0) (x1 := (1 : Int32)) (x2 := (q_I r1409.2 12 3 a0)) k_a0 (show 0 ≤ ((q_I r1409.2 12 3 a0)).toInt by first | with_reducible assumption | omega) (show ((q_I r1409.2 12 3 a0)).toInt ≤ 500 by first | with_reducible assumption | omega) (show 0 ≤ (1 : Int) by first | with_reducible assumption | omega) (show (1 : Int) ≤ 4 by first | with_reducible assumption | omega) i1411) (fun r1432 hr1433 => ?_)
            obtain ⟨i1435, ⟨u1438, u1439, u1440, u1441⟩, p1436, p1437⟩ := hr1433
            have u1442 := kp_t u1419 u1438
            have v1443 : q_V r1432 = q_V δ := (u1439).trans v1420
            have v1444 := kr_t v1421 u1441
            have f1445 := cb_12_5 i1435 k_a0
            have ns1446 : NS ad a0 r1409.2 r1432 := ⟨u1441 112 (by decide) (by decide) (by decide), u1441 113 (by decide) (by decide) (by decide), u1441 114 (by decide) (by decide) (by decide), u1441 115 (by decide) (by decide) (by decide), u1441 116 (by decide) (by decide) (by decide), u1438 12 24 _ (by decide), u1438 12 25 _ (by decide), u1438 12 26 _ (by decide), u1438 12 27 _ (by decide), fun z => by omega⟩
            unfold J_X12_thief_79
            have f1449 : (q_I r1432 12 24 a0).toInt = (q_I r1362 12 24 a0).toInt := ((show (q_I r1432 12 24 a0).toInt = (q_I r1409.2 12 24 a0).toInt from congrArg Int32.toInt (u1438 12 24 a0 (by decide))).trans ((show (q_I r1409.2 12 24 a0).toInt = (q_I d1403 12 24 a0).toInt from congrArg Int32.toInt (u1415 12 24 a0 (by decide))).trans ((show (q_I d1403 12 24 a0).toInt = (q_I d1397 12 24 a0).toInt from congrArg Int32.toInt (by rw [e1404]; exact rI_o (by decide))).trans ((show (q_I d1397 12 24 a0).toInt = (q_I d1391 12 24 a0).toInt from congrArg Int32.toInt (by rw [e1398]; exact rI_o (by decide))).trans (show (q_I d1391 12 24 a0).toInt = (q_I r1362 12 24 a0).toInt from congrArg Int32.toInt (by rw [e1392]; exact rI_o (by decide)))))))
            have f1450 : (q_I r1432 12 26 a0).toInt = (q_I d1397 12 26 a0).toInt := ((show (q_I r1432 12 26 a0).toInt = (q_I r1409.2 12 26 a0).toInt from congrArg Int32.toInt (u1438 12 26 a0 (by decide))).trans ((show (q_I r1409.2 12 26 a0).toInt = (q_I d1403 12 26 a0).toInt from congrArg Int32.toInt (u1415 12 26 a0 (by decide))).trans (show (q_I d1403 12 26 a0).toInt = (q_I d1397 12 26 a0).toInt from congrArg Int32.toInt (by rw [e1404]; exact rI_o (by decide)))))
            have f1451 := cb_12_26 i1399 k_a0
            have f1452 : (q_I d1397 12 26 a0).toInt = (0 : Int) := congrArg Int32.toInt (show q_I d1397 12 26 a0 = (0 : Int32) by rw [e1398]; exact rI_s)
            have f1453 : (q_I r1432 12 4 a0).toInt = (q_I r1409.2 12 4 a0).toInt := congrArg Int32.toInt (u1438 12 4 a0 (by decide))
            have f1454 : (q_I r1432 12 7 a0).toInt = (q_I r1362 12 7 a0).toInt := ((show (q_I r1432 12 7 a0).toInt = (q_I r1409.2 12 7 a0).toInt from congrArg Int32.toInt (u1438 12 7 a0 (by decide))).trans ((show (q_I r1409.2 12 7 a0).toInt = (q_I d1403 12 7 a0).toInt from congrArg Int32.toInt (u1415 12 7 a0 (by decide))).trans ((show (q_I d1403 12 7 a0).toInt = (q_I d1397 12 7 a0).toInt from congrArg Int32.toInt (by rw [e1404]; exact rI_o (by decide))).trans ((show (q_I d1397 12 7 a0).toInt = (q_I d1391 12 7 a0).toInt from congrArg Int32.toInt (by rw [e1398]; exact rI_o (by decide))).trans (show (q_I d1391 12 7 a0).toInt = (q_I r1362 12 7 a0).toInt from congrArg Int32.toInt (by rw [e1392]; exact rI_o (by decide)))))))
            have f1455 : (q_I r1432 12 27 a0).toInt = (q_I d1403 12 27 a0).toInt := ((show (q_I r1432 12 27 a0).toInt = (q_I r1409.2 12 27 a0).toInt from congrArg Int32.toInt (u1438 12 27 a0 (by decide))).trans (show (q_I r1409.2 12 27 a0).toInt = (q_I d1403 12 27 a0).toInt from congrArg Int32.toInt (u1415 12 27 a0 (by decide))))
            have f1456 := cb_12_27 i1405 k_a0
            have f1457 : (q_I d1403 12 27 a0).toInt = (0 : Int) := congrArg Int32.toInt (show q_I d1403 12 27 a0 = (0 : Int32) by rw [e1404]; exact rI_s)
            refine ok_bind (k_X12_readSteps L hN (a0 := a0) k_a0 (show (q_I r1432 12 24 a0).toInt ≤ 3 by first | with_reducible assumption | omega) (show (q_I r1432 12 26 a0).toInt ≤ (q_I r1432 12 4 a0).toInt by first | with_reducible assumption | omega) (show (q_I r1432 12 7 a0).toInt = 0 by first | with_reducible assumption | omega) (show 4 - (q_I r1432 12 27 a0).toInt < 20 by first | with_reducible assumption | omega) i1435) (fun r1447 hr1448 => ?_)
            obtain ⟨i1458, ⟨u1465, u1466, u1467⟩, p1459, p1460, p1461, p1462, p1463, p1464⟩ := hr1448
            have u1468 := kp_t u1442 u1465
            have v1469 : q_V r1447 = q_V δ := (u1466).trans v1443
            have v1470 := kr_t v1444 u1467
            have f1471 := cb_12_4 i1458 k_a0
            have f1472 := cb_12_5 i1458 k_a0
            have f1473 := ti_b (q_I r1447 12 7 a0)
            have f1474 := cb_12_27 i1458 k_a0
            have f1475 := cb_12_26 i1458 k_a0
            refine ok_bind (k_X12_fine L hN (a0 := a0) k_a0 i1458) (fun r1476 hr1477 => ?_)
            obtain ⟨i1478, p1479, p1480, p1481⟩ := hr1477
            try rw [i1478]
            have f1482 := bo_l p1479
            have f1483 := ti_b r1476.1
            refine ok_ite (fun h1484 => ?_) (fun h1484 => ?_)
            · have c1485 : r1476.1.toInt = (0 : Int) := o_eq h1484
              unfold J_X12_thief_106
              refine ok_bind (k_X12_result L hN (a0 := a0) (x1 := (q_I r1447 12 24 a0)) k_a0 i1458) (fun r1486 hr1487 => ?_)
              obtain ⟨i1488, ⟨u1490, u1491, u1492, u1493⟩, p1489⟩ := hr1487
              have u1494 := kp_t u1468 u1490
              have v1495 : q_V r1486.2 = q_V δ := (u1491).trans v1469
              have v1496 := kr_t v1470 u1493
              have f1497 := ti_b r1486.1
              have f1499 : (q_I r1486.2 12 5 a0).toInt = (q_I r1447 12 5 a0).toInt := congrArg Int32.toInt (u1490 12 5 a0 (by decide))
              have ns1498 : NS ad a0 r1447 r1486.2 := ⟨u1493 112 (by decide) (by decide) (by decide), u1493 113 (by decide) (by decide) (by decide), u1493 114 (by decide) (by decide) (by decide), u1493 115 (by decide) (by decide) (by decide), u1493 116 (by decide) (by decide) (by decide), u1490 12 24 _ (by decide), u1490 12 25 _ (by decide), u1490 12 26 _ (by decide), u1490 12 27 _ (by decide), fun z => by omega⟩
              have f1500 : (q_I r1486.2 12 24 a0).toInt = (q_I r1432 12 24 a0).toInt := ((show (q_I r1486.2 12 24 a0).toInt = (q_I r1447 12 24 a0).toInt from congrArg Int32.toInt (u1490 12 24 a0 (by decide))).trans (show (q_I r1447 12 24 a0).toInt = (q_I r1432 12 24 a0).toInt from congrArg Int32.toInt (u1465 12 24 a0 (by decide))))
              refine ok_ite (fun h1501 => ?_) (fun h1501 => ?_)
              · have c1502 : r1486.1.toInt = (q_I r1486.2 12 24 a0).toInt := o_eq h1501
                obtain ⟨b1503, o1504, k1505, n1506⟩ := gO_12_28 L k_a0
                obtain rfl := gS_12_28 L k_a0 o1504
                refine ok_at o1504 ?_
                have t1507 := ti_tn (q_I r1486.2 12 24 a0)
                refine ok_gd (fun hc1508 => ?_) ?_
                · rcases hc1508 with hc1508 | hc1508
                  · have c1509 : (q_I r1486.2 12 24 a0).toInt < (0 : Int) := o_lt hc1508
                    omega
                  · omega
                have f1513 : (q_I r1486.2 12 25 a0).toInt = (q_I r1447 12 25 a0).toInt := congrArg Int32.toInt (u1490 12 25 a0 (by decide))
                have f1514 := cb_12_25 i1458 k_a0
                refine ok_bdv (fun d1510 e1511 => ?_)
                have i1512 : RI ad h.1 δ0 d1510 := by rw [e1511]; exact cr_112 L i1488 (show 0 ≤ (q_I r1486.2 12 25 a0).toInt by omega) (show (q_I r1486.2 12 25 a0).toInt ≤ 60 by omega)
                have u1515 := kp_N u1494 (show q_I d1510 = q_I r1486.2 by rw [e1511]; rfl)
                have v1516 : q_V d1510 = q_V δ := ((show q_V d1510 = q_V r1486.2 by rw [e1511]; rfl)).trans v1495
                have v1517 := kr_s L (by decide) v1496 e1511
                have f1521 : (q_I d1510 12 24 a0).toInt = (q_I r1486.2 12 24 a0).toInt := congrArg Int32.toInt (by rw [e1511]; rfl)
                first | (have q1523 := te_addc (c := 1) (n := 1) rfl (q_I d1510 12 24 a0) (by omega) (by omega); obtain ⟨f1524, f1525, f1526⟩ := q1523) | (obtain ⟨q1523, f1524, f1525, f1526⟩ := ti_addc (c := 1) (n := 1) rfl (q_I d1510 12 24 a0))
                refine ok_bdv (fun d1518 e1519 => ?_)
                have i1520 : RI ad h.1 δ0 d1518 := by rw [e1519]; exact cs_12_24 L i1512 k_a0 (show 0 ≤ ((q_I d1510 12 24 a0) + (1 : Int32)).toInt by omega) (show ((q_I d1510 12 24 a0) + (1 : Int32)).toInt ≤ 4 by omega)
                have u1527 := kp_I u1515 e1519
                have v1528 : q_V d1518 = q_V δ := ((show q_V d1518 = q_V d1510 by rw [e1519]; rfl)).trans v1516
                have v1529 := kr_N v1517 (show q_R d1518 = q_R d1510 by rw [e1519]; rfl)
                unfold J_X12_thief_146
                have ss1530 : NS ad a0 δ d1 := NS.t NS.r (NS.w e2 (by decide))
                have ss1531 : NS0 ad a0 δ r1336.2 := NS0.t (NS.z ss1530) (NS.z ns1352)
                have ss1532 : NS0 ad a0 δ r1362 := NS0.t ss1531 ns1382
                have ns1534 : NS ad a0 d1403 r1409.2 := NS.t NS.r ns1427
                have ns1535 : NS ad a0 d1403 r1432 := NS.t ns1534 ns1446
                have ns1536 : NS ad a0 r1447 r1486.2 := NS.t NS.r ns1498
                have f1537 : (q_I d1397 12 24 a0).toInt = (q_I r1362 12 24 a0).toInt := ((show (q_I d1397 12 24 a0).toInt = (q_I d1391 12 24 a0).toInt from congrArg Int32.toInt (by rw [e1398]; exact rI_o (by decide))).trans (show (q_I d1391 12 24 a0).toInt = (q_I r1362 12 24 a0).toInt from congrArg Int32.toInt (by rw [e1392]; exact rI_o (by decide))))
                have f1538 : (q_I r1486.2 12 26 a0).toInt = (q_I r1447 12 26 a0).toInt := congrArg Int32.toInt (u1490 12 26 a0 (by decide))
                have ss1533 : TK ad a0 δ d1518 := TK.good L ss1532 e1392 e1398 e1404 ns1535 p1464 (u1467 112 (by decide) (by decide) (by decide)) ns1536 (show (0 : Int) = 0 by omega) (show (0 : Int) = 0 by omega) (show (0 : Int) = 0 by omega) (by omega) e1511 e1519 (show (((q_I r1486.2 12 24 a0).toNatClampNeg : Nat) : Int) = (q_I δ 12 24 a0).toInt by omega) (show (q_I r1486.2 12 25 a0).toInt = (q_I r1486.2 12 25 a0).toInt by omega) (show ((q_I d1510 12 24 a0) + (1 : Int32)).toInt = (q_I δ 12 24 a0).toInt + 1 by omega) (show (q_I r1486.2 12 5 a0).toInt = -1 by omega) (show (q_I r1486.2 12 26 a0).toInt ≤ 500 by omega)
                have f1539 : (q_I d1518 12 2 a0).toInt = (q_I r1362 12 2 a0).toInt := ((show (q_I d1518 12 2 a0).toInt = (q_I d1510 12 2 a0).toInt from congrArg Int32.toInt (by rw [e1519]; exact rI_o (by decide))).trans ((show (q_I d1510 12 2 a0).toInt = (q_I r1486.2 12 2 a0).toInt from congrArg Int32.toInt (by rw [e1511]; rfl)).trans ((show (q_I r1486.2 12 2 a0).toInt = (q_I r1447 12 2 a0).toInt from congrArg Int32.toInt (u1490 12 2 a0 (by decide))).trans ((show (q_I r1447 12 2 a0).toInt = (q_I r1432 12 2 a0).toInt from congrArg Int32.toInt (u1465 12 2 a0 (by decide))).trans ((show (q_I r1432 12 2 a0).toInt = (q_I r1409.2 12 2 a0).toInt from congrArg Int32.toInt (u1438 12 2 a0 (by decide))).trans ((show (q_I r1409.2 12 2 a0).toInt = (q_I d1403 12 2 a0).toInt from congrArg Int32.toInt (u1415 12 2 a0 (by decide))).trans ((show (q_I d1403 12 2 a0).toInt = (q_I d1397 12 2 a0).toInt from congrArg Int32.toInt (by rw [e1404]; exact rI_o (by decide))).trans ((show (q_I d1397 12 2 a0).toInt = (q_I d1391 12 2 a0).toInt from congrArg Int32.toInt (by rw [e1398]; exact rI_o (by decide))).trans (show (q_I d1391 12 2 a0).toInt = (q_I r1362 12 2 a0).toInt from congrArg Int32.toInt (by rw [e1392]; exact rI_o (by decide)))))))))))
                exact ok_some (show RI ad h.1 δ0 d1518 ∧ (kp [(12, 0), (12, 2), (12, 3), (12, 4), (12, 5), (12, 6), (12, 7), (12, 8), (12, 24), (12, 25), (12, 26), (12, 27)] δ d1518 ∧ q_V d1518 = q_V δ ∧ kr ad [100, 112, 113, 114, 115, 116, 117] δ d1518) ∧ TK ad a0 δ d1518 ∧ (0 ≤ (x1).toInt ∧ (x1).toInt ≤ (q_I δ 12 2 a0).toInt → (q_I d1518 12 2 a0).toInt = 0) ∧ ((x1).toInt < 0 ∨ (q_I δ 12 2 a0).toInt < (x1).toInt → (q_I d1518 12 2 a0).toInt = (q_I δ 12 2 a0).toInt) from ⟨i1520, ⟨kp_w (by decide) u1527, v1528, kr_w (by decide) v1529⟩, ss1533, by first | with_reducible assumption | omega, by first | with_reducible assumption | omega⟩)
              · have c1540 : r1486.1.toInt ≠ (q_I r1486.2 12 24 a0).toInt := o_ne h1501
                unfold J_X12_thief_146
                have ss1541 : NS ad a0 δ d1 := NS.t NS.r (NS.w e2 (by decide))
                have ss1542 : NS0 ad a0 δ r1336.2 := NS0.t (NS.z ss1541) (NS.z ns1352)
                have ss1543 : NS0 ad a0 δ r1362 := NS0.t ss1542 ns1382
                have ns1545 : NS ad a0 d1403 r1409.2 := NS.t NS.r ns1427
                have ns1546 : NS ad a0 d1403 r1432 := NS.t ns1545 ns1446
                have ns1547 : NS ad a0 r1447 r1486.2 := NS.t NS.r ns1498
                have f1548 : (q_I d1397 12 24 a0).toInt = (q_I r1362 12 24 a0).toInt := ((show (q_I d1397 12 24 a0).toInt = (q_I d1391 12 24 a0).toInt from congrArg Int32.toInt (by rw [e1398]; exact rI_o (by decide))).trans (show (q_I d1391 12 24 a0).toInt = (q_I r1362 12 24 a0).toInt from congrArg Int32.toInt (by rw [e1392]; exact rI_o (by decide))))
                have ss1544 : TK ad a0 δ r1486.2 := TK.bad L ss1543 e1392 e1398 e1404 ns1546 p1464 (u1467 112 (by decide) (by decide) (by decide)) ns1547 (show (0 : Int) = 0 by omega) (show (0 : Int) = 0 by omega) (show (0 : Int) = 0 by omega) (by omega)
                have f1549 : (q_I r1486.2 12 2 a0).toInt = (q_I r1362 12 2 a0).toInt := ((show (q_I r1486.2 12 2 a0).toInt = (q_I r1447 12 2 a0).toInt from congrArg Int32.toInt (u1490 12 2 a0 (by decide))).trans ((show (q_I r1447 12 2 a0).toInt = (q_I r1432 12 2 a0).toInt from congrArg Int32.toInt (u1465 12 2 a0 (by decide))).trans ((show (q_I r1432 12 2 a0).toInt = (q_I r1409.2 12 2 a0).toInt from congrArg Int32.toInt (u1438 12 2 a0 (by decide))).trans ((show (q_I r1409.2 12 2 a0).toInt = (q_I d1403 12 2 a0).toInt from congrArg Int32.toInt (u1415 12 2 a0 (by decide))).trans ((show (q_I d1403 12 2 a0).toInt = (q_I d1397 12 2 a0).toInt from congrArg Int32.toInt (by rw [e1404]; exact rI_o (by decide))).trans ((show (q_I d1397 12 2 a0).toInt = (q_I d1391 12 2 a0).toInt from congrArg Int32.toInt (by rw [e1398]; exact rI_o (by decide))).trans (show (q_I d1391 12 2 a0).toInt = (q_I r1362 12 2 a0).toInt from congrArg Int32.toInt (by rw [e1392]; exact rI_o (by decide)))))))))
                exact ok_some (show RI ad h.1 δ0 r1486.2 ∧ (kp [(12, 0), (12, 2), (12, 3), (12, 4), (12, 5), (12, 6), (12, 7), (12, 8), (12, 24), (12, 25), (12, 26), (12, 27)] δ r1486.2 ∧ q_V r1486.2 = q_V δ ∧ kr ad [100, 112, 113, 114, 115, 116, 117] δ r1486.2) ∧ TK ad a0 δ r1486.2 ∧ (0 ≤ (x1).toInt ∧ (x1).toInt ≤ (q_I δ 12 2 a0).toInt → (q_I r1486.2 12 2 a0).toInt = 0) ∧ ((x1).toInt < 0 ∨ (q_I δ 12 2 a0).toInt < (x1).toInt → (q_I r1486.2 12 2 a0).toInt = (q_I δ 12 2 a0).toInt) from ⟨i1488, ⟨kp_w (by decide) u1494, v1495, kr_w (by decide) v1496⟩, ss1544, by first | with_reducible assumption | omega, by first | with_reducible assumption | omega⟩)
            · have c1550 : r1476.1.toInt ≠ (0 : Int) := o_ne h1484
              refine ok_bind (k_X12_isMore L hN (a0 := a0) k_a0 i1458) (fun r1551 hr1552 => ?_)
              obtain ⟨i1553, ⟨u1557, u1558, u1559, u1560⟩, p1554, p1555, p1556⟩ := hr1552
              have u1561 := kp_t u1468 u1557
              have v1562 : q_V r1551.2 = q_V δ := (u1558).trans v1469
              have v1563 := kr_t v1470 u1560
              have f1564 := bo_l p1554
              have f1565 := cb_12_4 i1553 k_a0
              have f1566 := ti_b r1551.1
              have f1567 : (q_I r1447 12 3 a0).toInt = (q_I r1409.2 12 3 a0).toInt := ((show (q_I r1447 12 3 a0).toInt = (q_I r1432 12 3 a0).toInt from congrArg Int32.toInt (u1465 12 3 a0 (by decide))).trans (show (q_I r1432 12 3 a0).toInt = (q_I r1409.2 12 3 a0).toInt from congrArg Int32.toInt (u1438 12 3 a0 (by decide))))
              have f1569 : (q_I r1551.2 12 5 a0).toInt = (q_I r1447 12 5 a0).toInt := congrArg Int32.toInt (u1557 12 5 a0 (by decide))
              have ns1568 : NS ad a0 r1447 r1551.2 := ⟨u1560 112 (by decide) (by decide) (by decide), u1560 113 (by decide) (by decide) (by decide), u1560 114 (by decide) (by decide) (by decide), u1560 115 (by decide) (by decide) (by decide), u1560 116 (by decide) (by decide) (by decide), u1557 12 24 _ (by decide), u1557 12 25 _ (by decide), u1557 12 26 _ (by decide), u1557 12 27 _ (by decide), fun z => by omega⟩
              refine ok_ite (fun h1570 => ?_) (fun h1570 => ?_)
              · have c1571 : r1551.1.toInt = (0 : Int) := o_eq h1570
                unfold J_X12_thief_106
                refine ok_bind (k_X12_result L hN (a0 := a0) (x1 := (q_I r1551.2 12 24 a0)) k_a0 i1553) (fun r1572 hr1573 => ?_)
                obtain ⟨i1574, ⟨u1576, u1577, u1578, u1579⟩, p1575⟩ := hr1573
                have u1580 := kp_t u1561 u1576
                have v1581 : q_V r1572.2 = q_V δ := (u1577).trans v1562
                have v1582 := kr_t v1563 u1579
                have f1583 := ti_b r1572.1
                have f1585 : (q_I r1572.2 12 5 a0).toInt = (q_I r1551.2 12 5 a0).toInt := congrArg Int32.toInt (u1576 12 5 a0 (by decide))
                have ns1584 : NS ad a0 r1551.2 r1572.2 := ⟨u1579 112 (by decide) (by decide) (by decide), u1579 113 (by decide) (by decide) (by decide), u1579 114 (by decide) (by decide) (by decide), u1579 115 (by decide) (by decide) (by decide), u1579 116 (by decide) (by decide) (by decide), u1576 12 24 _ (by decide), u1576 12 25 _ (by decide), u1576 12 26 _ (by decide), u1576 12 27 _ (by decide), fun z => by omega⟩
                have f1586 : (q_I r1572.2 12 24 a0).toInt = (q_I r1432 12 24 a0).toInt := ((show (q_I r1572.2 12 24 a0).toInt = (q_I r1551.2 12 24 a0).toInt from congrArg Int32.toInt (u1576 12 24 a0 (by decide))).trans ((show (q_I r1551.2 12 24 a0).toInt = (q_I r1447 12 24 a0).toInt from congrArg Int32.toInt (u1557 12 24 a0 (by decide))).trans (show (q_I r1447 12 24 a0).toInt = (q_I r1432 12 24 a0).toInt from congrArg Int32.toInt (u1465 12 24 a0 (by decide)))))
                refine ok_ite (fun h1587 => ?_) (fun h1587 => ?_)
                · have c1588 : r1572.1.toInt = (q_I r1572.2 12 24 a0).toInt := o_eq h1587
                  obtain ⟨b1589, o1590, k1591, n1592⟩ := gO_12_28 L k_a0
                  obtain rfl := gS_12_28 L k_a0 o1590
                  refine ok_at o1590 ?_
                  have t1593 := ti_tn (q_I r1572.2 12 24 a0)
                  refine ok_gd (fun hc1594 => ?_) ?_
                  · rcases hc1594 with hc1594 | hc1594
                    · have c1595 : (q_I r1572.2 12 24 a0).toInt < (0 : Int) := o_lt hc1594
                      omega
                    · omega
                  have f1599 : (q_I r1572.2 12 25 a0).toInt = (q_I r1447 12 25 a0).toInt := ((show (q_I r1572.2 12 25 a0).toInt = (q_I r1551.2 12 25 a0).toInt from congrArg Int32.toInt (u1576 12 25 a0 (by decide))).trans (show (q_I r1551.2 12 25 a0).toInt = (q_I r1447 12 25 a0).toInt from congrArg Int32.toInt (u1557 12 25 a0 (by decide))))
                  have f1600 := cb_12_25 i1458 k_a0
                  refine ok_bdv (fun d1596 e1597 => ?_)
                  have i1598 : RI ad h.1 δ0 d1596 := by rw [e1597]; exact cr_112 L i1574 (show 0 ≤ (q_I r1572.2 12 25 a0).toInt by omega) (show (q_I r1572.2 12 25 a0).toInt ≤ 60 by omega)
                  have u1601 := kp_N u1580 (show q_I d1596 = q_I r1572.2 by rw [e1597]; rfl)
                  have v1602 : q_V d1596 = q_V δ := ((show q_V d1596 = q_V r1572.2 by rw [e1597]; rfl)).trans v1581
                  have v1603 := kr_s L (by decide) v1582 e1597
                  have f1607 : (q_I d1596 12 24 a0).toInt = (q_I r1572.2 12 24 a0).toInt := congrArg Int32.toInt (by rw [e1597]; rfl)
                  first | (have q1609 := te_addc (c := 1) (n := 1) rfl (q_I d1596 12 24 a0) (by omega) (by omega); obtain ⟨f1610, f1611, f1612⟩ := q1609) | (obtain ⟨q1609, f1610, f1611, f1612⟩ := ti_addc (c := 1) (n := 1) rfl (q_I d1596 12 24 a0))
                  refine ok_bdv (fun d1604 e1605 => ?_)
                  have i1606 : RI ad h.1 δ0 d1604 := by rw [e1605]; exact cs_12_24 L i1598 k_a0 (show 0 ≤ ((q_I d1596 12 24 a0) + (1 : Int32)).toInt by omega) (show ((q_I d1596 12 24 a0) + (1 : Int32)).toInt ≤ 4 by omega)
                  have u1613 := kp_I u1601 e1605
                  have v1614 : q_V d1604 = q_V δ := ((show q_V d1604 = q_V d1596 by rw [e1605]; rfl)).trans v1602
                  have v1615 := kr_N v1603 (show q_R d1604 = q_R d1596 by rw [e1605]; rfl)
                  unfold J_X12_thief_146
                  have ss1616 : NS ad a0 δ d1 := NS.t NS.r (NS.w e2 (by decide))
                  have ss1617 : NS0 ad a0 δ r1336.2 := NS0.t (NS.z ss1616) (NS.z ns1352)
                  have ss1618 : NS0 ad a0 δ r1362 := NS0.t ss1617 ns1382
                  have ns1620 : NS ad a0 d1403 r1409.2 := NS.t NS.r ns1427
                  have ns1621 : NS ad a0 d1403 r1432 := NS.t ns1620 ns1446
                  have ns1622 : NS ad a0 r1447 r1551.2 := NS.t NS.r ns1568
                  have ns1623 : NS ad a0 r1447 r1572.2 := NS.t ns1622 ns1584
                  have f1624 : (q_I d1397 12 24 a0).toInt = (q_I r1362 12 24 a0).toInt := ((show (q_I d1397 12 24 a0).toInt = (q_I d1391 12 24 a0).toInt from congrArg Int32.toInt (by rw [e1398]; exact rI_o (by decide))).trans (show (q_I d1391 12 24 a0).toInt = (q_I r1362 12 24 a0).toInt from congrArg Int32.toInt (by rw [e1392]; exact rI_o (by decide))))
                  have f1625 : (q_I r1572.2 12 26 a0).toInt = (q_I r1447 12 26 a0).toInt := ((show (q_I r1572.2 12 26 a0).toInt = (q_I r1551.2 12 26 a0).toInt from congrArg Int32.toInt (u1576 12 26 a0 (by decide))).trans (show (q_I r1551.2 12 26 a0).toInt = (q_I r1447 12 26 a0).toInt from congrArg Int32.toInt (u1557 12 26 a0 (by decide))))
                  have ss1619 : TK ad a0 δ d1604 := TK.good L ss1618 e1392 e1398 e1404 ns1621 p1464 (u1467 112 (by decide) (by decide) (by decide)) ns1623 (show (0 : Int) = 0 by omega) (show (0 : Int) = 0 by omega) (show (0 : Int) = 0 by omega) (by omega) e1597 e1605 (show (((q_I r1572.2 12 24 a0).toNatClampNeg : Nat) : Int) = (q_I δ 12 24 a0).toInt by omega) (show (q_I r1572.2 12 25 a0).toInt = (q_I r1572.2 12 25 a0).toInt by omega) (show ((q_I d1596 12 24 a0) + (1 : Int32)).toInt = (q_I δ 12 24 a0).toInt + 1 by omega) (show (q_I r1572.2 12 5 a0).toInt = -1 by omega) (show (q_I r1572.2 12 26 a0).toInt ≤ 500 by omega)
                  have f1626 : (q_I d1604 12 2 a0).toInt = (q_I r1362 12 2 a0).toInt := ((show (q_I d1604 12 2 a0).toInt = (q_I d1596 12 2 a0).toInt from congrArg Int32.toInt (by rw [e1605]; exact rI_o (by decide))).trans ((show (q_I d1596 12 2 a0).toInt = (q_I r1572.2 12 2 a0).toInt from congrArg Int32.toInt (by rw [e1597]; rfl)).trans ((show (q_I r1572.2 12 2 a0).toInt = (q_I r1551.2 12 2 a0).toInt from congrArg Int32.toInt (u1576 12 2 a0 (by decide))).trans ((show (q_I r1551.2 12 2 a0).toInt = (q_I r1447 12 2 a0).toInt from congrArg Int32.toInt (u1557 12 2 a0 (by decide))).trans ((show (q_I r1447 12 2 a0).toInt = (q_I r1432 12 2 a0).toInt from congrArg Int32.toInt (u1465 12 2 a0 (by decide))).trans ((show (q_I r1432 12 2 a0).toInt = (q_I r1409.2 12 2 a0).toInt from congrArg Int32.toInt (u1438 12 2 a0 (by decide))).trans ((show (q_I r1409.2 12 2 a0).toInt = (q_I d1403 12 2 a0).toInt from congrArg Int32.toInt (u1415 12 2 a0 (by decide))).trans ((show (q_I d1403 12 2 a0).toInt = (q_I d1397 12 2 a0).toInt from congrArg Int32.toInt (by rw [e1404]; exact rI_o (by decide))).trans ((show (q_I d1397 12 2 a0).toInt = (q_I d1391 12 2 a0).toInt from congrArg Int32.toInt (by rw [e1398]; exact rI_o (by decide))).trans (show (q_I d1391 12 2 a0).toInt = (q_I r1362 12 2 a0).toInt from congrArg Int32.toInt (by rw [e1392]; exact rI_o (by decide))))))))))))
                  exact ok_some (show RI ad h.1 δ0 d1604 ∧ (kp [(12, 0), (12, 2), (12, 3), (12, 4), (12, 5), (12, 6), (12, 7), (12, 8), (12, 24), (12, 25), (12, 26), (12, 27)] δ d1604 ∧ q_V d1604 = q_V δ ∧ kr ad [100, 112, 113, 114, 115, 116, 117] δ d1604) ∧ TK ad a0 δ d1604 ∧ (0 ≤ (x1).toInt ∧ (x1).toInt ≤ (q_I δ 12 2 a0).toInt → (q_I d1604 12 2 a0).toInt = 0) ∧ ((x1).toInt < 0 ∨ (q_I δ 12 2 a0).toInt < (x1).toInt → (q_I d1604 12 2 a0).toInt = (q_I δ 12 2 a0).toInt) from ⟨i1606, ⟨kp_w (by decide) u1613, v1614, kr_w (by decide) v1615⟩, ss1619, by first | with_reducible assumption | omega, by first | with_reducible assumption | omega⟩)
                · have c1627 : r1572.1.toInt ≠ (q_I r1572.2 12 24 a0).toInt := o_ne h1587
                  unfold J_X12_thief_146
                  have ss1628 : NS ad a0 δ d1 := NS.t NS.r (NS.w e2 (by decide))
                  have ss1629 : NS0 ad a0 δ r1336.2 := NS0.t (NS.z ss1628) (NS.z ns1352)
                  have ss1630 : NS0 ad a0 δ r1362 := NS0.t ss1629 ns1382
                  have ns1632 : NS ad a0 d1403 r1409.2 := NS.t NS.r ns1427
                  have ns1633 : NS ad a0 d1403 r1432 := NS.t ns1632 ns1446
                  have ns1634 : NS ad a0 r1447 r1551.2 := NS.t NS.r ns1568
                  have ns1635 : NS ad a0 r1447 r1572.2 := NS.t ns1634 ns1584
                  have f1636 : (q_I d1397 12 24 a0).toInt = (q_I r1362 12 24 a0).toInt := ((show (q_I d1397 12 24 a0).toInt = (q_I d1391 12 24 a0).toInt from congrArg Int32.toInt (by rw [e1398]; exact rI_o (by decide))).trans (show (q_I d1391 12 24 a0).toInt = (q_I r1362 12 24 a0).toInt from congrArg Int32.toInt (by rw [e1392]; exact rI_o (by decide))))
                  have ss1631 : TK ad a0 δ r1572.2 := TK.bad L ss1630 e1392 e1398 e1404 ns1633 p1464 (u1467 112 (by decide) (by decide) (by decide)) ns1635 (show (0 : Int) = 0 by omega) (show (0 : Int) = 0 by omega) (show (0 : Int) = 0 by omega) (by omega)
                  have f1637 : (q_I r1572.2 12 2 a0).toInt = (q_I r1362 12 2 a0).toInt := ((show (q_I r1572.2 12 2 a0).toInt = (q_I r1551.2 12 2 a0).toInt from congrArg Int32.toInt (u1576 12 2 a0 (by decide))).trans ((show (q_I r1551.2 12 2 a0).toInt = (q_I r1447 12 2 a0).toInt from congrArg Int32.toInt (u1557 12 2 a0 (by decide))).trans ((show (q_I r1447 12 2 a0).toInt = (q_I r1432 12 2 a0).toInt from congrArg Int32.toInt (u1465 12 2 a0 (by decide))).trans ((show (q_I r1432 12 2 a0).toInt = (q_I r1409.2 12 2 a0).toInt from congrArg Int32.toInt (u1438 12 2 a0 (by decide))).trans ((show (q_I r1409.2 12 2 a0).toInt = (q_I d1403 12 2 a0).toInt from congrArg Int32.toInt (u1415 12 2 a0 (by decide))).trans ((show (q_I d1403 12 2 a0).toInt = (q_I d1397 12 2 a0).toInt from congrArg Int32.toInt (by rw [e1404]; exact rI_o (by decide))).trans ((show (q_I d1397 12 2 a0).toInt = (q_I d1391 12 2 a0).toInt from congrArg Int32.toInt (by rw [e1398]; exact rI_o (by decide))).trans (show (q_I d1391 12 2 a0).toInt = (q_I r1362 12 2 a0).toInt from congrArg Int32.toInt (by rw [e1392]; exact rI_o (by decide))))))))))
                  exact ok_some (show RI ad h.1 δ0 r1572.2 ∧ (kp [(12, 0), (12, 2), (12, 3), (12, 4), (12, 5), (12, 6), (12, 7), (12, 8), (12, 24), (12, 25), (12, 26), (12, 27)] δ r1572.2 ∧ q_V r1572.2 = q_V δ ∧ kr ad [100, 112, 113, 114, 115, 116, 117] δ r1572.2) ∧ TK ad a0 δ r1572.2 ∧ (0 ≤ (x1).toInt ∧ (x1).toInt ≤ (q_I δ 12 2 a0).toInt → (q_I r1572.2 12 2 a0).toInt = 0) ∧ ((x1).toInt < 0 ∨ (q_I δ 12 2 a0).toInt < (x1).toInt → (q_I r1572.2 12 2 a0).toInt = (q_I δ 12 2 a0).toInt) from ⟨i1574, ⟨kp_w (by decide) u1580, v1581, kr_w (by decide) v1582⟩, ss1631, by first | with_reducible assumption | omega, by first | with_reducible assumption | omega⟩)
              · have c1638 : r1551.1.toInt ≠ (0 : Int) := o_ne h1570
                refine ok_bind (k_X12_wrong L hN (a0 := a0) (x1 := (1 : Int32)) (x2 := (q_I r1551.2 12 4 a0)) k_a0 (show 0 ≤ ((q_I r1551.2 12 4 a0)).toInt by first | with_reducible assumption | omega) (show ((q_I r1551.2 12 4 a0)).toInt ≤ 500 by first | with_reducible assumption | omega) (show 0 ≤ (1 : Int) by first | with_reducible assumption | omega) (show (1 : Int) ≤ 4 by first | with_reducible assumption | omega) i1553) (fun r1639 hr1640 => ?_)
                obtain ⟨i1641, ⟨u1644, u1645, u1646, u1647⟩, p1642, p1643⟩ := hr1640
                have u1648 := kp_t u1561 u1644
                have v1649 : q_V r1639 = q_V δ := (u1645).trans v1562
                have v1650 := kr_t v1563 u1647
                have f1651 := cb_12_5 i1641 k_a0
                have ns1652 : NS ad a0 r1551.2 r1639 := ⟨u1647 112 (by decide) (by decide) (by decide), u1647 113 (by decide) (by decide) (by decide), u1647 114 (by decide) (by decide) (by decide), u1647 115 (by decide) (by decide) (by decide), u1647 116 (by decide) (by decide) (by decide), u1644 12 24 _ (by decide), u1644 12 25 _ (by decide), u1644 12 26 _ (by decide), u1644 12 27 _ (by decide), fun z => by omega⟩
                unfold J_X12_thief_106
                refine ok_bind (k_X12_result L hN (a0 := a0) (x1 := (q_I r1639 12 24 a0)) k_a0 i1641) (fun r1653 hr1654 => ?_)
                obtain ⟨i1655, ⟨u1657, u1658, u1659, u1660⟩, p1656⟩ := hr1654
                have u1661 := kp_t u1648 u1657
                have v1662 : q_V r1653.2 = q_V δ := (u1658).trans v1649
                have v1663 := kr_t v1650 u1660
                have f1664 := ti_b r1653.1
                have f1666 : (q_I r1653.2 12 5 a0).toInt = (q_I r1639 12 5 a0).toInt := congrArg Int32.toInt (u1657 12 5 a0 (by decide))
                have ns1665 : NS ad a0 r1639 r1653.2 := ⟨u1660 112 (by decide) (by decide) (by decide), u1660 113 (by decide) (by decide) (by decide), u1660 114 (by decide) (by decide) (by decide), u1660 115 (by decide) (by decide) (by decide), u1660 116 (by decide) (by decide) (by decide), u1657 12 24 _ (by decide), u1657 12 25 _ (by decide), u1657 12 26 _ (by decide), u1657 12 27 _ (by decide), fun z => by omega⟩
                have f1667 : (q_I r1653.2 12 24 a0).toInt = (q_I r1432 12 24 a0).toInt := ((show (q_I r1653.2 12 24 a0).toInt = (q_I r1639 12 24 a0).toInt from congrArg Int32.toInt (u1657 12 24 a0 (by decide))).trans ((show (q_I r1639 12 24 a0).toInt = (q_I r1551.2 12 24 a0).toInt from congrArg Int32.toInt (u1644 12 24 a0 (by decide))).trans ((show (q_I r1551.2 12 24 a0).toInt = (q_I r1447 12 24 a0).toInt from congrArg Int32.toInt (u1557 12 24 a0 (by decide))).trans (show (q_I r1447 12 24 a0).toInt = (q_I r1432 12 24 a0).toInt from congrArg Int32.toInt (u1465 12 24 a0 (by decide))))))
                refine ok_ite (fun h1668 => ?_) (fun h1668 => ?_)
                · have c1669 : r1653.1.toInt = (q_I r1653.2 12 24 a0).toInt := o_eq h1668
                  obtain ⟨b1670, o1671, k1672, n1673⟩ := gO_12_28 L k_a0
                  obtain rfl := gS_12_28 L k_a0 o1671
                  refine ok_at o1671 ?_
                  have t1674 := ti_tn (q_I r1653.2 12 24 a0)
                  refine ok_gd (fun hc1675 => ?_) ?_
                  · rcases hc1675 with hc1675 | hc1675
                    · have c1676 : (q_I r1653.2 12 24 a0).toInt < (0 : Int) := o_lt hc1675
                      omega
                    · omega
                  have f1680 : (q_I r1653.2 12 25 a0).toInt = (q_I r1447 12 25 a0).toInt := ((show (q_I r1653.2 12 25 a0).toInt = (q_I r1639 12 25 a0).toInt from congrArg Int32.toInt (u1657 12 25 a0 (by decide))).trans ((show (q_I r1639 12 25 a0).toInt = (q_I r1551.2 12 25 a0).toInt from congrArg Int32.toInt (u1644 12 25 a0 (by decide))).trans (show (q_I r1551.2 12 25 a0).toInt = (q_I r1447 12 25 a0).toInt from congrArg Int32.toInt (u1557 12 25 a0 (by decide)))))
                  have f1681 := cb_12_25 i1458 k_a0
                  refine ok_bdv (fun d1677 e1678 => ?_)
                  have i1679 : RI ad h.1 δ0 d1677 := by rw [e1678]; exact cr_112 L i1655 (show 0 ≤ (q_I r1653.2 12 25 a0).toInt by omega) (show (q_I r1653.2 12 25 a0).toInt ≤ 60 by omega)
                  have u1682 := kp_N u1661 (show q_I d1677 = q_I r1653.2 by rw [e1678]; rfl)
                  have v1683 : q_V d1677 = q_V δ := ((show q_V d1677 = q_V r1653.2 by rw [e1678]; rfl)).trans v1662
                  have v1684 := kr_s L (by decide) v1663 e1678
                  have f1688 : (q_I d1677 12 24 a0).toInt = (q_I r1653.2 12 24 a0).toInt := congrArg Int32.toInt (by rw [e1678]; rfl)
                  first | (have q1690 := te_addc (c := 1) (n := 1) rfl (q_I d1677 12 24 a0) (by omega) (by omega); obtain ⟨f1691, f1692, f1693⟩ := q1690) | (obtain ⟨q1690, f1691, f1692, f1693⟩ := ti_addc (c := 1) (n := 1) rfl (q_I d1677 12 24 a0))
                  refine ok_bdv (fun d1685 e1686 => ?_)
                  have i1687 : RI ad h.1 δ0 d1685 := by rw [e1686]; exact cs_12_24 L i1679 k_a0 (show 0 ≤ ((q_I d1677 12 24 a0) + (1 : Int32)).toInt by omega) (show ((q_I d1677 12 24 a0) + (1 : Int32)).toInt ≤ 4 by omega)
                  have u1694 := kp_I u1682 e1686
                  have v1695 : q_V d1685 = q_V δ := ((show q_V d1685 = q_V d1677 by rw [e1686]; rfl)).trans v1683
                  have v1696 := kr_N v1684 (show q_R d1685 = q_R d1677 by rw [e1686]; rfl)
                  unfold J_X12_thief_146
                  have ss1697 : NS ad a0 δ d1 := NS.t NS.r (NS.w e2 (by decide))
                  have ss1698 : NS0 ad a0 δ r1336.2 := NS0.t (NS.z ss1697) (NS.z ns1352)
                  have ss1699 : NS0 ad a0 δ r1362 := NS0.t ss1698 ns1382
                  have ns1701 : NS ad a0 d1403 r1409.2 := NS.t NS.r ns1427
                  have ns1702 : NS ad a0 d1403 r1432 := NS.t ns1701 ns1446
                  have ns1703 : NS ad a0 r1447 r1551.2 := NS.t NS.r ns1568
                  have ns1704 : NS ad a0 r1447 r1639 := NS.t ns1703 ns1652
                  have ns1705 : NS ad a0 r1447 r1653.2 := NS.t ns1704 ns1665
                  have f1706 : (q_I d1397 12 24 a0).toInt = (q_I r1362 12 24 a0).toInt := ((show (q_I d1397 12 24 a0).toInt = (q_I d1391 12 24 a0).toInt from congrArg Int32.toInt (by rw [e1398]; exact rI_o (by decide))).trans (show (q_I d1391 12 24 a0).toInt = (q_I r1362 12 24 a0).toInt from congrArg Int32.toInt (by rw [e1392]; exact rI_o (by decide))))
                  have f1707 : (q_I r1653.2 12 26 a0).toInt = (q_I r1447 12 26 a0).toInt := ((show (q_I r1653.2 12 26 a0).toInt = (q_I r1639 12 26 a0).toInt from congrArg Int32.toInt (u1657 12 26 a0 (by decide))).trans ((show (q_I r1639 12 26 a0).toInt = (q_I r1551.2 12 26 a0).toInt from congrArg Int32.toInt (u1644 12 26 a0 (by decide))).trans (show (q_I r1551.2 12 26 a0).toInt = (q_I r1447 12 26 a0).toInt from congrArg Int32.toInt (u1557 12 26 a0 (by decide)))))
                  have ss1700 : TK ad a0 δ d1685 := TK.good L ss1699 e1392 e1398 e1404 ns1702 p1464 (u1467 112 (by decide) (by decide) (by decide)) ns1705 (show (0 : Int) = 0 by omega) (show (0 : Int) = 0 by omega) (show (0 : Int) = 0 by omega) (by omega) e1678 e1686 (show (((q_I r1653.2 12 24 a0).toNatClampNeg : Nat) : Int) = (q_I δ 12 24 a0).toInt by omega) (show (q_I r1653.2 12 25 a0).toInt = (q_I r1653.2 12 25 a0).toInt by omega) (show ((q_I d1677 12 24 a0) + (1 : Int32)).toInt = (q_I δ 12 24 a0).toInt + 1 by omega) (show (q_I r1653.2 12 5 a0).toInt = -1 by omega) (show (q_I r1653.2 12 26 a0).toInt ≤ 500 by omega)
                  have f1708 : (q_I d1685 12 2 a0).toInt = (q_I r1362 12 2 a0).toInt := ((show (q_I d1685 12 2 a0).toInt = (q_I d1677 12 2 a0).toInt from congrArg Int32.toInt (by rw [e1686]; exact rI_o (by decide))).trans ((show (q_I d1677 12 2 a0).toInt = (q_I r1653.2 12 2 a0).toInt from congrArg Int32.toInt (by rw [e1678]; rfl)).trans ((show (q_I r1653.2 12 2 a0).toInt = (q_I r1639 12 2 a0).toInt from congrArg Int32.toInt (u1657 12 2 a0 (by decide))).trans ((show (q_I r1639 12 2 a0).toInt = (q_I r1551.2 12 2 a0).toInt from congrArg Int32.toInt (u1644 12 2 a0 (by decide))).trans ((show (q_I r1551.2 12 2 a0).toInt = (q_I r1447 12 2 a0).toInt from congrArg Int32.toInt (u1557 12 2 a0 (by decide))).trans ((show (q_I r1447 12 2 a0).toInt = (q_I r1432 12 2 a0).toInt from congrArg Int32.toInt (u1465 12 2 a0 (by decide))).trans ((show (q_I r1432 12 2 a0).toInt = (q_I r1409.2 12 2 a0).toInt from congrArg Int32.toInt (u1438 12 2 a0 (by decide))).trans ((show (q_I r1409.2 12 2 a0).toInt = (q_I d1403 12 2 a0).toInt from congrArg Int32.toInt (u1415 12 2 a0 (by decide))).trans ((show (q_I d1403 12 2 a0).toInt = (q_I d1397 12 2 a0).toInt from congrArg Int32.toInt (by rw [e1404]; exact rI_o (by decide))).trans ((show (q_I d1397 12 2 a0).toInt = (q_I d1391 12 2 a0).toInt from congrArg Int32.toInt (by rw [e1398]; exact rI_o (by decide))).trans (show (q_I d1391 12 2 a0).toInt = (q_I r1362 12 2 a0).toInt from congrArg Int32.toInt (by rw [e1392]; exact rI_o (by decide)))))))))))))
                  exact ok_some (show RI ad h.1 δ0 d1685 ∧ (kp [(12, 0), (12, 2), (12, 3), (12, 4), (12, 5), (12, 6), (12, 7), (12, 8), (12, 24), (12, 25), (12, 26), (12, 27)] δ d1685 ∧ q_V d1685 = q_V δ ∧ kr ad [100, 112, 113, 114, 115, 116, 117] δ d1685) ∧ TK ad a0 δ d1685 ∧ (0 ≤ (x1).toInt ∧ (x1).toInt ≤ (q_I δ 12 2 a0).toInt → (q_I d1685 12 2 a0).toInt = 0) ∧ ((x1).toInt < 0 ∨ (q_I δ 12 2 a0).toInt < (x1).toInt → (q_I d1685 12 2 a0).toInt = (q_I δ 12 2 a0).toInt) from ⟨i1687, ⟨kp_w (by decide) u1694, v1695, kr_w (by decide) v1696⟩, ss1700, by first | with_reducible assumption | omega, by first | with_reducible assumption | omega⟩)
                · have c1709 : r1653.1.toInt ≠ (q_I r1653.2 12 24 a0).toInt := o_ne h1668
                  unfold J_X12_thief_146
                  have ss1710 : NS ad a0 δ d1 := NS.t NS.r (NS.w e2 (by decide))
                  have ss1711 : NS0 ad a0 δ r1336.2 := NS0.t (NS.z ss1710) (NS.z ns1352)
                  have ss1712 : NS0 ad a0 δ r1362 := NS0.t ss1711 ns1382
                  have ns1714 : NS ad a0 d1403 r1409.2 := NS.t NS.r ns1427
                  have ns1715 : NS ad a0 d1403 r1432 := NS.t ns1714 ns1446
                  have ns1716 : NS ad a0 r1447 r1551.2 := NS.t NS.r ns1568
                  have ns1717 : NS ad a0 r1447 r1639 := NS.t ns1716 ns1652
                  have ns1718 : NS ad a0 r1447 r1653.2 := NS.t ns1717 ns1665
                  have f1719 : (q_I d1397 12 24 a0).toInt = (q_I r1362 12 24 a0).toInt := ((show (q_I d1397 12 24 a0).toInt = (q_I d1391 12 24 a0).toInt from congrArg Int32.toInt (by rw [e1398]; exact rI_o (by decide))).trans (show (q_I d1391 12 24 a0).toInt = (q_I r1362 12 24 a0).toInt from congrArg Int32.toInt (by rw [e1392]; exact rI_o (by decide))))
                  have ss1713 : TK ad a0 δ r1653.2 := TK.bad L ss1712 e1392 e1398 e1404 ns1715 p1464 (u1467 112 (by decide) (by decide) (by decide)) ns1718 (show (0 : Int) = 0 by omega) (show (0 : Int) = 0 by omega) (show (0 : Int) = 0 by omega) (by omega)
                  have f1720 : (q_I r1653.2 12 2 a0).toInt = (q_I r1362 12 2 a0).toInt := ((show (q_I r1653.2 12 2 a0).toInt = (q_I r1639 12 2 a0).toInt from congrArg Int32.toInt (u1657 12 2 a0 (by decide))).trans ((show (q_I r1639 12 2 a0).toInt = (q_I r1551.2 12 2 a0).toInt from congrArg Int32.toInt (u1644 12 2 a0 (by decide))).trans ((show (q_I r1551.2 12 2 a0).toInt = (q_I r1447 12 2 a0).toInt from congrArg Int32.toInt (u1557 12 2 a0 (by decide))).trans ((show (q_I r1447 12 2 a0).toInt = (q_I r1432 12 2 a0).toInt from congrArg Int32.toInt (u1465 12 2 a0 (by decide))).trans ((show (q_I r1432 12 2 a0).toInt = (q_I r1409.2 12 2 a0).toInt from congrArg Int32.toInt (u1438 12 2 a0 (by decide))).trans ((show (q_I r1409.2 12 2 a0).toInt = (q_I d1403 12 2 a0).toInt from congrArg Int32.toInt (u1415 12 2 a0 (by decide))).trans ((show (q_I d1403 12 2 a0).toInt = (q_I d1397 12 2 a0).toInt from congrArg Int32.toInt (by rw [e1404]; exact rI_o (by decide))).trans ((show (q_I d1397 12 2 a0).toInt = (q_I d1391 12 2 a0).toInt from congrArg Int32.toInt (by rw [e1398]; exact rI_o (by decide))).trans (show (q_I d1391 12 2 a0).toInt = (q_I r1362 12 2 a0).toInt from congrArg Int32.toInt (by rw [e1392]; exact rI_o (by decide)))))))))))
                  exact ok_some (show RI ad h.1 δ0 r1653.2 ∧ (kp [(12, 0), (12, 2), (12, 3), (12, 4), (12, 5), (12, 6), (12, 7), (12, 8), (12, 24), (12, 25), (12, 26), (12, 27)] δ r1653.2 ∧ q_V r1653.2 = q_V δ ∧ kr ad [100, 112, 113, 114, 115, 116, 117] δ r1653.2) ∧ TK ad a0 δ r1653.2 ∧ (0 ≤ (x1).toInt ∧ (x1).toInt ≤ (q_I δ 12 2 a0).toInt → (q_I r1653.2 12 2 a0).toInt = 0) ∧ ((x1).toInt < 0 ∨ (q_I δ 12 2 a0).toInt < (x1).toInt → (q_I r1653.2 12 2 a0).toInt = (q_I δ 12 2 a0).toInt) from ⟨i1655, ⟨kp_w (by decide) u1661, v1662, kr_w (by decide) v1663⟩, ss1713, by first | with_reducible assumption | omega, by first | with_reducible assumption | omega⟩)
          · have c1721 : r1409.1.toInt ≠ (0 : Int) := o_ne h1430
            unfold J_X12_thief_79
            have f1724 : (q_I r1409.2 12 24 a0).toInt = (q_I r1362 12 24 a0).toInt := ((show (q_I r1409.2 12 24 a0).toInt = (q_I d1403 12 24 a0).toInt from congrArg Int32.toInt (u1415 12 24 a0 (by decide))).trans ((show (q_I d1403 12 24 a0).toInt = (q_I d1397 12 24 a0).toInt from congrArg Int32.toInt (by rw [e1404]; exact rI_o (by decide))).trans ((show (q_I d1397 12 24 a0).toInt = (q_I d1391 12 24 a0).toInt from congrArg Int32.toInt (by rw [e1398]; exact rI_o (by decide))).trans (show (q_I d1391 12 24 a0).toInt = (q_I r1362 12 24 a0).toInt from congrArg Int32.toInt (by rw [e1392]; exact rI_o (by decide))))))
            have f1725 : (q_I r1409.2 12 26 a0).toInt = (q_I d1397 12 26 a0).toInt := ((show (q_I r1409.2 12 26 a0).toInt = (q_I d1403 12 26 a0).toInt from congrArg Int32.toInt (u1415 12 26 a0 (by decide))).trans (show (q_I d1403 12 26 a0).toInt = (q_I d1397 12 26 a0).toInt from congrArg Int32.toInt (by rw [e1404]; exact rI_o (by decide))))
            have f1726 := cb_12_26 i1399 k_a0
            have f1727 : (q_I d1397 12 26 a0).toInt = (0 : Int) := congrArg Int32.toInt (show q_I d1397 12 26 a0 = (0 : Int32) by rw [e1398]; exact rI_s)
            have f1728 : (q_I r1409.2 12 7 a0).toInt = (q_I r1362 12 7 a0).toInt := ((show (q_I r1409.2 12 7 a0).toInt = (q_I d1403 12 7 a0).toInt from congrArg Int32.toInt (u1415 12 7 a0 (by decide))).trans ((show (q_I d1403 12 7 a0).toInt = (q_I d1397 12 7 a0).toInt from congrArg Int32.toInt (by rw [e1404]; exact rI_o (by decide))).trans ((show (q_I d1397 12 7 a0).toInt = (q_I d1391 12 7 a0).toInt from congrArg Int32.toInt (by rw [e1398]; exact rI_o (by decide))).trans (show (q_I d1391 12 7 a0).toInt = (q_I r1362 12 7 a0).toInt from congrArg Int32.toInt (by rw [e1392]; exact rI_o (by decide))))))
            have f1729 : (q_I r1409.2 12 27 a0).toInt = (q_I d1403 12 27 a0).toInt := congrArg Int32.toInt (u1415 12 27 a0 (by decide))
            have f1730 := cb_12_27 i1405 k_a0
            have f1731 : (q_I d1403 12 27 a0).toInt = (0 : Int) := congrArg Int32.toInt (show q_I d1403 12 27 a0 = (0 : Int32) by rw [e1404]; exact rI_s)
            refine ok_bind (k_X12_readSteps L hN (a0 := a0) k_a0 (show (q_I r1409.2 12 24 a0).toInt ≤ 3 by first | with_reducible assumption | omega) (show (q_I r1409.2 12 26 a0).toInt ≤ (q_I r1409.2 12 4 a0).toInt by first | with_reducible assumption | omega) (show (q_I r1409.2 12 7 a0).toInt = 0 by first | with_reducible assumption | omega) (show 4 - (q_I r1409.2 12 27 a0).toInt < 20 by first | with_reducible assumption | omega) i1411) (fun r1722 hr1723 => ?_)
            obtain ⟨i1732, ⟨u1739, u1740, u1741⟩, p1733, p1734, p1735, p1736, p1737, p1738⟩ := hr1723
            have u1742 := kp_t u1419 u1739
            have v1743 : q_V r1722 = q_V δ := (u1740).trans v1420
            have v1744 := kr_t v1421 u1741
            have f1745 := cb_12_4 i1732 k_a0
            have f1746 := cb_12_5 i1732 k_a0
            have f1747 := ti_b (q_I r1722 12 7 a0)
            have f1748 := cb_12_27 i1732 k_a0
            have f1749 := cb_12_26 i1732 k_a0
            refine ok_bind (k_X12_fine L hN (a0 := a0) k_a0 i1732) (fun r1750 hr1751 => ?_)
            obtain ⟨i1752, p1753, p1754, p1755⟩ := hr1751
            try rw [i1752]
            have f1756 := bo_l p1753
            have f1757 := ti_b r1750.1
            refine ok_ite (fun h1758 => ?_) (fun h1758 => ?_)
            · have c1759 : r1750.1.toInt = (0 : Int) := o_eq h1758
              unfold J_X12_thief_106
              refine ok_bind (k_X12_result L hN (a0 := a0) (x1 := (q_I r1722 12 24 a0)) k_a0 i1732) (fun r1760 hr1761 => ?_)
              obtain ⟨i1762, ⟨u1764, u1765, u1766, u1767⟩, p1763⟩ := hr1761
              have u1768 := kp_t u1742 u1764
              have v1769 : q_V r1760.2 = q_V δ := (u1765).trans v1743
              have v1770 := kr_t v1744 u1767
              have f1771 := ti_b r1760.1
              have f1773 : (q_I r1760.2 12 5 a0).toInt = (q_I r1722 12 5 a0).toInt := congrArg Int32.toInt (u1764 12 5 a0 (by decide))
              have ns1772 : NS ad a0 r1722 r1760.2 := ⟨u1767 112 (by decide) (by decide) (by decide), u1767 113 (by decide) (by decide) (by decide), u1767 114 (by decide) (by decide) (by decide), u1767 115 (by decide) (by decide) (by decide), u1767 116 (by decide) (by decide) (by decide), u1764 12 24 _ (by decide), u1764 12 25 _ (by decide), u1764 12 26 _ (by decide), u1764 12 27 _ (by decide), fun z => by omega⟩
              have f1774 : (q_I r1760.2 12 24 a0).toInt = (q_I r1409.2 12 24 a0).toInt := ((show (q_I r1760.2 12 24 a0).toInt = (q_I r1722 12 24 a0).toInt from congrArg Int32.toInt (u1764 12 24 a0 (by decide))).trans (show (q_I r1722 12 24 a0).toInt = (q_I r1409.2 12 24 a0).toInt from congrArg Int32.toInt (u1739 12 24 a0 (by decide))))
              refine ok_ite (fun h1775 => ?_) (fun h1775 => ?_)
              · have c1776 : r1760.1.toInt = (q_I r1760.2 12 24 a0).toInt := o_eq h1775
                obtain ⟨b1777, o1778, k1779, n1780⟩ := gO_12_28 L k_a0
                obtain rfl := gS_12_28 L k_a0 o1778
                refine ok_at o1778 ?_
                have t1781 := ti_tn (q_I r1760.2 12 24 a0)
                refine ok_gd (fun hc1782 => ?_) ?_
                · rcases hc1782 with hc1782 | hc1782
                  · have c1783 : (q_I r1760.2 12 24 a0).toInt < (0 : Int) := o_lt hc1782
                    omega
                  · omega
                have f1787 : (q_I r1760.2 12 25 a0).toInt = (q_I r1722 12 25 a0).toInt := congrArg Int32.toInt (u1764 12 25 a0 (by decide))
                have f1788 := cb_12_25 i1732 k_a0
                refine ok_bdv (fun d1784 e1785 => ?_)
                have i1786 : RI ad h.1 δ0 d1784 := by rw [e1785]; exact cr_112 L i1762 (show 0 ≤ (q_I r1760.2 12 25 a0).toInt by omega) (show (q_I r1760.2 12 25 a0).toInt ≤ 60 by omega)
                have u1789 := kp_N u1768 (show q_I d1784 = q_I r1760.2 by rw [e1785]; rfl)
                have v1790 : q_V d1784 = q_V δ := ((show q_V d1784 = q_V r1760.2 by rw [e1785]; rfl)).trans v1769
                have v1791 := kr_s L (by decide) v1770 e1785
                have f1795 : (q_I d1784 12 24 a0).toInt = (q_I r1760.2 12 24 a0).toInt := congrArg Int32.toInt (by rw [e1785]; rfl)
                first | (have q1797 := te_addc (c := 1) (n := 1) rfl (q_I d1784 12 24 a0) (by omega) (by omega); obtain ⟨f1798, f1799, f1800⟩ := q1797) | (obtain ⟨q1797, f1798, f1799, f1800⟩ := ti_addc (c := 1) (n := 1) rfl (q_I d1784 12 24 a0))
                refine ok_bdv (fun d1792 e1793 => ?_)
                have i1794 : RI ad h.1 δ0 d1792 := by rw [e1793]; exact cs_12_24 L i1786 k_a0 (show 0 ≤ ((q_I d1784 12 24 a0) + (1 : Int32)).toInt by omega) (show ((q_I d1784 12 24 a0) + (1 : Int32)).toInt ≤ 4 by omega)
                have u1801 := kp_I u1789 e1793
                have v1802 : q_V d1792 = q_V δ := ((show q_V d1792 = q_V d1784 by rw [e1793]; rfl)).trans v1790
                have v1803 := kr_N v1791 (show q_R d1792 = q_R d1784 by rw [e1793]; rfl)
                unfold J_X12_thief_146
                have ss1804 : NS ad a0 δ d1 := NS.t NS.r (NS.w e2 (by decide))
                have ss1805 : NS0 ad a0 δ r1336.2 := NS0.t (NS.z ss1804) (NS.z ns1352)
                have ss1806 : NS0 ad a0 δ r1362 := NS0.t ss1805 ns1382
                have ns1808 : NS ad a0 d1403 r1409.2 := NS.t NS.r ns1427
                have ns1809 : NS ad a0 r1722 r1760.2 := NS.t NS.r ns1772
                have f1810 : (q_I d1397 12 24 a0).toInt = (q_I r1362 12 24 a0).toInt := ((show (q_I d1397 12 24 a0).toInt = (q_I d1391 12 24 a0).toInt from congrArg Int32.toInt (by rw [e1398]; exact rI_o (by decide))).trans (show (q_I d1391 12 24 a0).toInt = (q_I r1362 12 24 a0).toInt from congrArg Int32.toInt (by rw [e1392]; exact rI_o (by decide))))
                have f1811 : (q_I r1760.2 12 26 a0).toInt = (q_I r1722 12 26 a0).toInt := congrArg Int32.toInt (u1764 12 26 a0 (by decide))
                have ss1807 : TK ad a0 δ d1792 := TK.good L ss1806 e1392 e1398 e1404 ns1808 p1738 (u1741 112 (by decide) (by decide) (by decide)) ns1809 (show (0 : Int) = 0 by omega) (show (0 : Int) = 0 by omega) (show (0 : Int) = 0 by omega) (by omega) e1785 e1793 (show (((q_I r1760.2 12 24 a0).toNatClampNeg : Nat) : Int) = (q_I δ 12 24 a0).toInt by omega) (show (q_I r1760.2 12 25 a0).toInt = (q_I r1760.2 12 25 a0).toInt by omega) (show ((q_I d1784 12 24 a0) + (1 : Int32)).toInt = (q_I δ 12 24 a0).toInt + 1 by omega) (show (q_I r1760.2 12 5 a0).toInt = -1 by omega) (show (q_I r1760.2 12 26 a0).toInt ≤ 500 by omega)
                have f1812 : (q_I d1792 12 2 a0).toInt = (q_I r1362 12 2 a0).toInt := ((show (q_I d1792 12 2 a0).toInt = (q_I d1784 12 2 a0).toInt from congrArg Int32.toInt (by rw [e1793]; exact rI_o (by decide))).trans ((show (q_I d1784 12 2 a0).toInt = (q_I r1760.2 12 2 a0).toInt from congrArg Int32.toInt (by rw [e1785]; rfl)).trans ((show (q_I r1760.2 12 2 a0).toInt = (q_I r1722 12 2 a0).toInt from congrArg Int32.toInt (u1764 12 2 a0 (by decide))).trans ((show (q_I r1722 12 2 a0).toInt = (q_I r1409.2 12 2 a0).toInt from congrArg Int32.toInt (u1739 12 2 a0 (by decide))).trans ((show (q_I r1409.2 12 2 a0).toInt = (q_I d1403 12 2 a0).toInt from congrArg Int32.toInt (u1415 12 2 a0 (by decide))).trans ((show (q_I d1403 12 2 a0).toInt = (q_I d1397 12 2 a0).toInt from congrArg Int32.toInt (by rw [e1404]; exact rI_o (by decide))).trans ((show (q_I d1397 12 2 a0).toInt = (q_I d1391 12 2 a0).toInt from congrArg Int32.toInt (by rw [e1398]; exact rI_o (by decide))).trans (show (q_I d1391 12 2 a0).toInt = (q_I r1362 12 2 a0).toInt from congrArg Int32.toInt (by rw [e1392]; exact rI_o (by decide))))))))))
                exact ok_some (show RI ad h.1 δ0 d1792 ∧ (kp [(12, 0), (12, 2), (12, 3), (12, 4), (12, 5), (12, 6), (12, 7), (12, 8), (12, 24), (12, 25), (12, 26), (12, 27)] δ d1792 ∧ q_V d1792 = q_V δ ∧ kr ad [100, 112, 113, 114, 115, 116, 117] δ d1792) ∧ TK ad a0 δ d1792 ∧ (0 ≤ (x1).toInt ∧ (x1).toInt ≤ (q_I δ 12 2 a0).toInt → (q_I d1792 12 2 a0).toInt = 0) ∧ ((x1).toInt < 0 ∨ (q_I δ 12 2 a0).toInt < (x1).toInt → (q_I d1792 12 2 a0).toInt = (q_I δ 12 2 a0).toInt) from ⟨i1794, ⟨kp_w (by decide) u1801, v1802, kr_w (by decide) v1803⟩, ss1807, by first | with_reducible assumption | omega, by first | with_reducible assumption | omega⟩)
              · have c1813 : r1760.1.toInt ≠ (q_I r1760.2 12 24 a0).toInt := o_ne h1775
                unfold J_X12_thief_146
                have ss1814 : NS ad a0 δ d1 := NS.t NS.r (NS.w e2 (by decide))
                have ss1815 : NS0 ad a0 δ r1336.2 := NS0.t (NS.z ss1814) (NS.z ns1352)
                have ss1816 : NS0 ad a0 δ r1362 := NS0.t ss1815 ns1382
                have ns1818 : NS ad a0 d1403 r1409.2 := NS.t NS.r ns1427
                have ns1819 : NS ad a0 r1722 r1760.2 := NS.t NS.r ns1772
                have f1820 : (q_I d1397 12 24 a0).toInt = (q_I r1362 12 24 a0).toInt := ((show (q_I d1397 12 24 a0).toInt = (q_I d1391 12 24 a0).toInt from congrArg Int32.toInt (by rw [e1398]; exact rI_o (by decide))).trans (show (q_I d1391 12 24 a0).toInt = (q_I r1362 12 24 a0).toInt from congrArg Int32.toInt (by rw [e1392]; exact rI_o (by decide))))
                have ss1817 : TK ad a0 δ r1760.2 := TK.bad L ss1816 e1392 e1398 e1404 ns1818 p1738 (u1741 112 (by decide) (by decide) (by decide)) ns1819 (show (0 : Int) = 0 by omega) (show (0 : Int) = 0 by omega) (show (0 : Int) = 0 by omega) (by omega)
                have f1821 : (q_I r1760.2 12 2 a0).toInt = (q_I r1362 12 2 a0).toInt := ((show (q_I r1760.2 12 2 a0).toInt = (q_I r1722 12 2 a0).toInt from congrArg Int32.toInt (u1764 12 2 a0 (by decide))).trans ((show (q_I r1722 12 2 a0).toInt = (q_I r1409.2 12 2 a0).toInt from congrArg Int32.toInt (u1739 12 2 a0 (by decide))).trans ((show (q_I r1409.2 12 2 a0).toInt = (q_I d1403 12 2 a0).toInt from congrArg Int32.toInt (u1415 12 2 a0 (by decide))).trans ((show (q_I d1403 12 2 a0).toInt = (q_I d1397 12 2 a0).toInt from congrArg Int32.toInt (by rw [e1404]; exact rI_o (by decide))).trans ((show (q_I d1397 12 2 a0).toInt = (q_I d1391 12 2 a0).toInt from congrArg Int32.toInt (by rw [e1398]; exact rI_o (by decide))).trans (show (q_I d1391 12 2 a0).toInt = (q_I r1362 12 2 a0).toInt from congrArg Int32.toInt (by rw [e1392]; exact rI_o (by decide))))))))
                exact ok_some (show RI ad h.1 δ0 r1760.2 ∧ (kp [(12, 0), (12, 2), (12, 3), (12, 4), (12, 5), (12, 6), (12, 7), (12, 8), (12, 24), (12, 25), (12, 26), (12, 27)] δ r1760.2 ∧ q_V r1760.2 = q_V δ ∧ kr ad [100, 112, 113, 114, 115, 116, 117] δ r1760.2) ∧ TK ad a0 δ r1760.2 ∧ (0 ≤ (x1).toInt ∧ (x1).toInt ≤ (q_I δ 12 2 a0).toInt → (q_I r1760.2 12 2 a0).toInt = 0) ∧ ((x1).toInt < 0 ∨ (q_I δ 12 2 a0).toInt < (x1).toInt → (q_I r1760.2 12 2 a0).toInt = (q_I δ 12 2 a0).toInt) from ⟨i1762, ⟨kp_w (by decide) u1768, v1769, kr_w (by decide) v1770⟩, ss1817, by first | with_reducible assumption | omega, by first | with_reducible assumption | omega⟩)
            · have c1822 : r1750.1.toInt ≠ (0 : Int) := o_ne h1758
              refine ok_bind (k_X12_isMore L hN (a0 := a0) k_a0 i1732) (fun r1823 hr1824 => ?_)
              obtain ⟨i1825, ⟨u1829, u1830, u1831, u1832⟩, p1826, p1827, p1828⟩ := hr1824
              have u1833 := kp_t u1742 u1829
              have v1834 : q_V r1823.2 = q_V δ := (u1830).trans v1743
              have v1835 := kr_t v1744 u1832
              have f1836 := bo_l p1826
              have f1837 := cb_12_4 i1825 k_a0
              have f1838 := ti_b r1823.1
              have f1839 : (q_I r1722 12 3 a0).toInt = (q_I d1403 12 3 a0).toInt := ((show (q_I r1722 12 3 a0).toInt = (q_I r1409.2 12 3 a0).toInt from congrArg Int32.toInt (u1739 12 3 a0 (by decide))).trans (show (q_I r1409.2 12 3 a0).toInt = (q_I d1403 12 3 a0).toInt from congrArg Int32.toInt (u1415 12 3 a0 (by decide))))
              have f1841 : (q_I r1823.2 12 5 a0).toInt = (q_I r1722 12 5 a0).toInt := congrArg Int32.toInt (u1829 12 5 a0 (by decide))
              have ns1840 : NS ad a0 r1722 r1823.2 := ⟨u1832 112 (by decide) (by decide) (by decide), u1832 113 (by decide) (by decide) (by decide), u1832 114 (by decide) (by decide) (by decide), u1832 115 (by decide) (by decide) (by decide), u1832 116 (by decide) (by decide) (by decide), u1829 12 24 _ (by decide), u1829 12 25 _ (by decide), u1829 12 26 _ (by decide), u1829 12 27 _ (by decide), fun z => by omega⟩
              refine ok_ite (fun h1842 => ?_) (fun h1842 => ?_)
              · have c1843 : r1823.1.toInt = (0 : Int) := o_eq h1842
                unfold J_X12_thief_106
                refine ok_bind (k_X12_result L hN (a0 := a0) (x1 := (q_I r1823.2 12 24 a0)) k_a0 i1825) (fun r1844 hr1845 => ?_)
                obtain ⟨i1846, ⟨u1848, u1849, u1850, u1851⟩, p1847⟩ := hr1845
                have u1852 := kp_t u1833 u1848
                have v1853 : q_V r1844.2 = q_V δ := (u1849).trans v1834
                have v1854 := kr_t v1835 u1851
                have f1855 := ti_b r1844.1
                have f1857 : (q_I r1844.2 12 5 a0).toInt = (q_I r1823.2 12 5 a0).toInt := congrArg Int32.toInt (u1848 12 5 a0 (by decide))
                have ns1856 : NS ad a0 r1823.2 r1844.2 := ⟨u1851 112 (by decide) (by decide) (by decide), u1851 113 (by decide) (by decide) (by decide), u1851 114 (by decide) (by decide) (by decide), u1851 115 (by decide) (by decide) (by decide), u1851 116 (by decide) (by decide) (by decide), u1848 12 24 _ (by decide), u1848 12 25 _ (by decide), u1848 12 26 _ (by decide), u1848 12 27 _ (by decide), fun z => by omega⟩
                have f1858 : (q_I r1844.2 12 24 a0).toInt = (q_I r1409.2 12 24 a0).toInt := ((show (q_I r1844.2 12 24 a0).toInt = (q_I r1823.2 12 24 a0).toInt from congrArg Int32.toInt (u1848 12 24 a0 (by decide))).trans ((show (q_I r1823.2 12 24 a0).toInt = (q_I r1722 12 24 a0).toInt from congrArg Int32.toInt (u1829 12 24 a0 (by decide))).trans (show (q_I r1722 12 24 a0).toInt = (q_I r1409.2 12 24 a0).toInt from congrArg Int32.toInt (u1739 12 24 a0 (by decide)))))
                refine ok_ite (fun h1859 => ?_) (fun h1859 => ?_)
                · have c1860 : r1844.1.toInt = (q_I r1844.2 12 24 a0).toInt := o_eq h1859
                  obtain ⟨b1861, o1862, k1863, n1864⟩ := gO_12_28 L k_a0
                  obtain rfl := gS_12_28 L k_a0 o1862
                  refine ok_at o1862 ?_
                  have t1865 := ti_tn (q_I r1844.2 12 24 a0)
                  refine ok_gd (fun hc1866 => ?_) ?_
                  · rcases hc1866 with hc1866 | hc1866
                    · have c1867 : (q_I r1844.2 12 24 a0).toInt < (0 : Int) := o_lt hc1866
                      omega
                    · omega
                  have f1871 : (q_I r1844.2 12 25 a0).toInt = (q_I r1722 12 25 a0).toInt := ((show (q_I r1844.2 12 25 a0).toInt = (q_I r1823.2 12 25 a0).toInt from congrArg Int32.toInt (u1848 12 25 a0 (by decide))).trans (show (q_I r1823.2 12 25 a0).toInt = (q_I r1722 12 25 a0).toInt from congrArg Int32.toInt (u1829 12 25 a0 (by decide))))
                  have f1872 := cb_12_25 i1732 k_a0
                  refine ok_bdv (fun d1868 e1869 => ?_)
                  have i1870 : RI ad h.1 δ0 d1868 := by rw [e1869]; exact cr_112 L i1846 (show 0 ≤ (q_I r1844.2 12 25 a0).toInt by omega) (show (q_I r1844.2 12 25 a0).toInt ≤ 60 by omega)
                  have u1873 := kp_N u1852 (show q_I d1868 = q_I r1844.2 by rw [e1869]; rfl)
                  have v1874 : q_V d1868 = q_V δ := ((show q_V d1868 = q_V r1844.2 by rw [e1869]; rfl)).trans v1853
                  have v1875 := kr_s L (by decide) v1854 e1869
                  have f1879 : (q_I d1868 12 24 a0).toInt = (q_I r1844.2 12 24 a0).toInt := congrArg Int32.toInt (by rw [e1869]; rfl)
                  first | (have q1881 := te_addc (c := 1) (n := 1) rfl (q_I d1868 12 24 a0) (by omega) (by omega); obtain ⟨f1882, f1883, f1884⟩ := q1881) | (obtain ⟨q1881, f1882, f1883, f1884⟩ := ti_addc (c := 1) (n := 1) rfl (q_I d1868 12 24 a0))
                  refine ok_bdv (fun d1876 e1877 => ?_)
                  have i1878 : RI ad h.1 δ0 d1876 := by rw [e1877]; exact cs_12_24 L i1870 k_a0 (show 0 ≤ ((q_I d1868 12 24 a0) + (1 : Int32)).toInt by omega) (show ((q_I d1868 12 24 a0) + (1 : Int32)).toInt ≤ 4 by omega)
                  have u1885 := kp_I u1873 e1877
                  have v1886 : q_V d1876 = q_V δ := ((show q_V d1876 = q_V d1868 by rw [e1877]; rfl)).trans v1874
                  have v1887 := kr_N v1875 (show q_R d1876 = q_R d1868 by rw [e1877]; rfl)
                  unfold J_X12_thief_146
                  have ss1888 : NS ad a0 δ d1 := NS.t NS.r (NS.w e2 (by decide))
                  have ss1889 : NS0 ad a0 δ r1336.2 := NS0.t (NS.z ss1888) (NS.z ns1352)
                  have ss1890 : NS0 ad a0 δ r1362 := NS0.t ss1889 ns1382
                  have ns1892 : NS ad a0 d1403 r1409.2 := NS.t NS.r ns1427
                  have ns1893 : NS ad a0 r1722 r1823.2 := NS.t NS.r ns1840
                  have ns1894 : NS ad a0 r1722 r1844.2 := NS.t ns1893 ns1856
                  have f1895 : (q_I d1397 12 24 a0).toInt = (q_I r1362 12 24 a0).toInt := ((show (q_I d1397 12 24 a0).toInt = (q_I d1391 12 24 a0).toInt from congrArg Int32.toInt (by rw [e1398]; exact rI_o (by decide))).trans (show (q_I d1391 12 24 a0).toInt = (q_I r1362 12 24 a0).toInt from congrArg Int32.toInt (by rw [e1392]; exact rI_o (by decide))))
                  have f1896 : (q_I r1844.2 12 26 a0).toInt = (q_I r1722 12 26 a0).toInt := ((show (q_I r1844.2 12 26 a0).toInt = (q_I r1823.2 12 26 a0).toInt from congrArg Int32.toInt (u1848 12 26 a0 (by decide))).trans (show (q_I r1823.2 12 26 a0).toInt = (q_I r1722 12 26 a0).toInt from congrArg Int32.toInt (u1829 12 26 a0 (by decide))))
                  have ss1891 : TK ad a0 δ d1876 := TK.good L ss1890 e1392 e1398 e1404 ns1892 p1738 (u1741 112 (by decide) (by decide) (by decide)) ns1894 (show (0 : Int) = 0 by omega) (show (0 : Int) = 0 by omega) (show (0 : Int) = 0 by omega) (by omega) e1869 e1877 (show (((q_I r1844.2 12 24 a0).toNatClampNeg : Nat) : Int) = (q_I δ 12 24 a0).toInt by omega) (show (q_I r1844.2 12 25 a0).toInt = (q_I r1844.2 12 25 a0).toInt by omega) (show ((q_I d1868 12 24 a0) + (1 : Int32)).toInt = (q_I δ 12 24 a0).toInt + 1 by omega) (show (q_I r1844.2 12 5 a0).toInt = -1 by omega) (show (q_I r1844.2 12 26 a0).toInt ≤ 500 by omega)
                  have f1897 : (q_I d1876 12 2 a0).toInt = (q_I r1362 12 2 a0).toInt := ((show (q_I d1876 12 2 a0).toInt = (q_I d1868 12 2 a0).toInt from congrArg Int32.toInt (by rw [e1877]; exact rI_o (by decide))).trans ((show (q_I d1868 12 2 a0).toInt = (q_I r1844.2 12 2 a0).toInt from congrArg Int32.toInt (by rw [e1869]; rfl)).trans ((show (q_I r1844.2 12 2 a0).toInt = (q_I r1823.2 12 2 a0).toInt from congrArg Int32.toInt (u1848 12 2 a0 (by decide))).trans ((show (q_I r1823.2 12 2 a0).toInt = (q_I r1722 12 2 a0).toInt from congrArg Int32.toInt (u1829 12 2 a0 (by decide))).trans ((show (q_I r1722 12 2 a0).toInt = (q_I r1409.2 12 2 a0).toInt from congrArg Int32.toInt (u1739 12 2 a0 (by decide))).trans ((show (q_I r1409.2 12 2 a0).toInt = (q_I d1403 12 2 a0).toInt from congrArg Int32.toInt (u1415 12 2 a0 (by decide))).trans ((show (q_I d1403 12 2 a0).toInt = (q_I d1397 12 2 a0).toInt from congrArg Int32.toInt (by rw [e1404]; exact rI_o (by decide))).trans ((show (q_I d1397 12 2 a0).toInt = (q_I d1391 12 2 a0).toInt from congrArg Int32.toInt (by rw [e1398]; exact rI_o (by decide))).trans (show (q_I d1391 12 2 a0).toInt = (q_I r1362 12 2 a0).toInt from congrArg Int32.toInt (by rw [e1392]; exact rI_o (by decide)))))))))))
                  exact ok_some (show RI ad h.1 δ0 d1876 ∧ (kp [(12, 0), (12, 2), (12, 3), (12, 4), (12, 5), (12, 6), (12, 7), (12, 8), (12, 24), (12, 25), (12, 26), (12, 27)] δ d1876 ∧ q_V d1876 = q_V δ ∧ kr ad [100, 112, 113, 114, 115, 116, 117] δ d1876) ∧ TK ad a0 δ d1876 ∧ (0 ≤ (x1).toInt ∧ (x1).toInt ≤ (q_I δ 12 2 a0).toInt → (q_I d1876 12 2 a0).toInt = 0) ∧ ((x1).toInt < 0 ∨ (q_I δ 12 2 a0).toInt < (x1).toInt → (q_I d1876 12 2 a0).toInt = (q_I δ 12 2 a0).toInt) from ⟨i1878, ⟨kp_w (by decide) u1885, v1886, kr_w (by decide) v1887⟩, ss1891, by first | with_reducible assumption | omega, by first | with_reducible assumption | omega⟩)
                · have c1898 : r1844.1.toInt ≠ (q_I r1844.2 12 24 a0).toInt := o_ne h1859
                  unfold J_X12_thief_146
                  have ss1899 : NS ad a0 δ d1 := NS.t NS.r (NS.w e2 (by decide))
                  have ss1900 : NS0 ad a0 δ r1336.2 := NS0.t (NS.z ss1899) (NS.z ns1352)
                  have ss1901 : NS0 ad a0 δ r1362 := NS0.t ss1900 ns1382
                  have ns1903 : NS ad a0 d1403 r1409.2 := NS.t NS.r ns1427
                  have ns1904 : NS ad a0 r1722 r1823.2 := NS.t NS.r ns1840
                  have ns1905 : NS ad a0 r1722 r1844.2 := NS.t ns1904 ns1856
                  have f1906 : (q_I d1397 12 24 a0).toInt = (q_I r1362 12 24 a0).toInt := ((show (q_I d1397 12 24 a0).toInt = (q_I d1391 12 24 a0).toInt from congrArg Int32.toInt (by rw [e1398]; exact rI_o (by decide))).trans (show (q_I d1391 12 24 a0).toInt = (q_I r1362 12 24 a0).toInt from congrArg Int32.toInt (by rw [e1392]; exact rI_o (by decide))))
                  have ss1902 : TK ad a0 δ r1844.2 := TK.bad L ss1901 e1392 e1398 e1404 ns1903 p1738 (u1741 112 (by decide) (by decide) (by decide)) ns1905 (show (0 : Int) = 0 by omega) (show (0 : Int) = 0 by omega) (show (0 : Int) = 0 by omega) (by omega)
                  have f1907 : (q_I r1844.2 12 2 a0).toInt = (q_I r1362 12 2 a0).toInt := ((show (q_I r1844.2 12 2 a0).toInt = (q_I r1823.2 12 2 a0).toInt from congrArg Int32.toInt (u1848 12 2 a0 (by decide))).trans ((show (q_I r1823.2 12 2 a0).toInt = (q_I r1722 12 2 a0).toInt from congrArg Int32.toInt (u1829 12 2 a0 (by decide))).trans ((show (q_I r1722 12 2 a0).toInt = (q_I r1409.2 12 2 a0).toInt from congrArg Int32.toInt (u1739 12 2 a0 (by decide))).trans ((show (q_I r1409.2 12 2 a0).toInt = (q_I d1403 12 2 a0).toInt from congrArg Int32.toInt (u1415 12 2 a0 (by decide))).trans ((show (q_I d1403 12 2 a0).toInt = (q_I d1397 12 2 a0).toInt from congrArg Int32.toInt (by rw [e1404]; exact rI_o (by decide))).trans ((show (q_I d1397 12 2 a0).toInt = (q_I d1391 12 2 a0).toInt from congrArg Int32.toInt (by rw [e1398]; exact rI_o (by decide))).trans (show (q_I d1391 12 2 a0).toInt = (q_I r1362 12 2 a0).toInt from congrArg Int32.toInt (by rw [e1392]; exact rI_o (by decide)))))))))
                  exact ok_some (show RI ad h.1 δ0 r1844.2 ∧ (kp [(12, 0), (12, 2), (12, 3), (12, 4), (12, 5), (12, 6), (12, 7), (12, 8), (12, 24), (12, 25), (12, 26), (12, 27)] δ r1844.2 ∧ q_V r1844.2 = q_V δ ∧ kr ad [100, 112, 113, 114, 115, 116, 117] δ r1844.2) ∧ TK ad a0 δ r1844.2 ∧ (0 ≤ (x1).toInt ∧ (x1).toInt ≤ (q_I δ 12 2 a0).toInt → (q_I r1844.2 12 2 a0).toInt = 0) ∧ ((x1).toInt < 0 ∨ (q_I δ 12 2 a0).toInt < (x1).toInt → (q_I r1844.2 12 2 a0).toInt = (q_I δ 12 2 a0).toInt) from ⟨i1846, ⟨kp_w (by decide) u1852, v1853, kr_w (by decide) v1854⟩, ss1902, by first | with_reducible assumption | omega, by first | with_reducible assumption | omega⟩)
              · have c1908 : r1823.1.toInt ≠ (0 : Int) := o_ne h1842
                refine ok_bind (k_X12_wrong L hN (a0 := a0) (x1 := (1 : Int32)) (x2 := (q_I r1823.2 12 4 a0)) k_a0 (show 0 ≤ ((q_I r1823.2 12 4 a0)).toInt by first | with_reducible assumption | omega) (show ((q_I r1823.2 12 4 a0)).toInt ≤ 500 by first | with_reducible assumption | omega) (show 0 ≤ (1 : Int) by first | with_reducible assumption | omega) (show (1 : Int) ≤ 4 by first | with_reducible assumption | omega) i1825) (fun r1909 hr1910 => ?_)
                obtain ⟨i1911, ⟨u1914, u1915, u1916, u1917⟩, p1912, p1913⟩ := hr1910
                have u1918 := kp_t u1833 u1914
                have v1919 : q_V r1909 = q_V δ := (u1915).trans v1834
                have v1920 := kr_t v1835 u1917
                have f1921 := cb_12_5 i1911 k_a0
                have ns1922 : NS ad a0 r1823.2 r1909 := ⟨u1917 112 (by decide) (by decide) (by decide), u1917 113 (by decide) (by decide) (by decide), u1917 114 (by decide) (by decide) (by decide), u1917 115 (by decide) (by decide) (by decide), u1917 116 (by decide) (by decide) (by decide), u1914 12 24 _ (by decide), u1914 12 25 _ (by decide), u1914 12 26 _ (by decide), u1914 12 27 _ (by decide), fun z => by omega⟩
                unfold J_X12_thief_106
                refine ok_bind (k_X12_result L hN (a0 := a0) (x1 := (q_I r1909 12 24 a0)) k_a0 i1911) (fun r1923 hr1924 => ?_)
                obtain ⟨i1925, ⟨u1927, u1928, u1929, u1930⟩, p1926⟩ := hr1924
                have u1931 := kp_t u1918 u1927
                have v1932 : q_V r1923.2 = q_V δ := (u1928).trans v1919
                have v1933 := kr_t v1920 u1930
                have f1934 := ti_b r1923.1
                have f1936 : (q_I r1923.2 12 5 a0).toInt = (q_I r1909 12 5 a0).toInt := congrArg Int32.toInt (u1927 12 5 a0 (by decide))
                have ns1935 : NS ad a0 r1909 r1923.2 := ⟨u1930 112 (by decide) (by decide) (by decide), u1930 113 (by decide) (by decide) (by decide), u1930 114 (by decide) (by decide) (by decide), u1930 115 (by decide) (by decide) (by decide), u1930 116 (by decide) (by decide) (by decide), u1927 12 24 _ (by decide), u1927 12 25 _ (by decide), u1927 12 26 _ (by decide), u1927 12 27 _ (by decide), fun z => by omega⟩
                have f1937 : (q_I r1923.2 12 24 a0).toInt = (q_I r1409.2 12 24 a0).toInt := ((show (q_I r1923.2 12 24 a0).toInt = (q_I r1909 12 24 a0).toInt from congrArg Int32.toInt (u1927 12 24 a0 (by decide))).trans ((show (q_I r1909 12 24 a0).toInt = (q_I r1823.2 12 24 a0).toInt from congrArg Int32.toInt (u1914 12 24 a0 (by decide))).trans ((show (q_I r1823.2 12 24 a0).toInt = (q_I r1722 12 24 a0).toInt from congrArg Int32.toInt (u1829 12 24 a0 (by decide))).trans (show (q_I r1722 12 24 a0).toInt = (q_I r1409.2 12 24 a0).toInt from congrArg Int32.toInt (u1739 12 24 a0 (by decide))))))
                refine ok_ite (fun h1938 => ?_) (fun h1938 => ?_)
                · have c1939 : r1923.1.toInt = (q_I r1923.2 12 24 a0).toInt := o_eq h1938
                  obtain ⟨b1940, o1941, k1942, n1943⟩ := gO_12_28 L k_a0
                  obtain rfl := gS_12_28 L k_a0 o1941
                  refine ok_at o1941 ?_
                  have t1944 := ti_tn (q_I r1923.2 12 24 a0)
                  refine ok_gd (fun hc1945 => ?_) ?_
                  · rcases hc1945 with hc1945 | hc1945
                    · have c1946 : (q_I r1923.2 12 24 a0).toInt < (0 : Int) := o_lt hc1945
                      omega
                    · omega
                  have f1950 : (q_I r1923.2 12 25 a0).toInt = (q_I r1722 12 25 a0).toInt := ((show (q_I r1923.2 12 25 a0).toInt = (q_I r1909 12 25 a0).toInt from congrArg Int32.toInt (u1927 12 25 a0 (by decide))).trans ((show (q_I r1909 12 25 a0).toInt = (q_I r1823.2 12 25 a0).toInt from congrArg Int32.toInt (u1914 12 25 a0 (by decide))).trans (show (q_I r1823.2 12 25 a0).toInt = (q_I r1722 12 25 a0).toInt from congrArg Int32.toInt (u1829 12 25 a0 (by decide)))))
                  have f1951 := cb_12_25 i1732 k_a0
                  refine ok_bdv (fun d1947 e1948 => ?_)
                  have i1949 : RI ad h.1 δ0 d1947 := by rw [e1948]; exact cr_112 L i1925 (show 0 ≤ (q_I r1923.2 12 25 a0).toInt by omega) (show (q_I r1923.2 12 25 a0).toInt ≤ 60 by omega)
                  have u1952 := kp_N u1931 (show q_I d1947 = q_I r1923.2 by rw [e1948]; rfl)
                  have v1953 : q_V d1947 = q_V δ := ((show q_V d1947 = q_V r1923.2 by rw [e1948]; rfl)).trans v1932
                  have v1954 := kr_s L (by decide) v1933 e1948
                  have f1958 : (q_I d1947 12 24 a0).toInt = (q_I r1923.2 12 24 a0).toInt := congrArg Int32.toInt (by rw [e1948]; rfl)
                  first | (have q1960 := te_addc (c := 1) (n := 1) rfl (q_I d1947 12 24 a0) (by omega) (by omega); obtain ⟨f1961, f1962, f1963⟩ := q1960) | (obtain ⟨q1960, f1961, f1962, f1963⟩ := ti_addc (c := 1) (n := 1) rfl (q_I d1947 12 24 a0))
                  refine ok_bdv (fun d1955 e1956 => ?_)
                  have i1957 : RI ad h.1 δ0 d1955 := by rw [e1956]; exact cs_12_24 L i1949 k_a0 (show 0 ≤ ((q_I d1947 12 24 a0) + (1 : Int32)).toInt by omega) (show ((q_I d1947 12 24 a0) + (1 : Int32)).toInt ≤ 4 by omega)
                  have u1964 := kp_I u1952 e1956
                  have v1965 : q_V d1955 = q_V δ := ((show q_V d1955 = q_V d1947 by rw [e1956]; rfl)).trans v1953
                  have v1966 := kr_N v1954 (show q_R d1955 = q_R d1947 by rw [e1956]; rfl)
                  unfold J_X12_thief_146
                  have ss1967 : NS ad a0 δ d1 := NS.t NS.r (NS.w e2 (by decide))
                  have ss1968 : NS0 ad a0 δ r1336.2 := NS0.t (NS.z ss1967) (NS.z ns1352)
                  have ss1969 : NS0 ad a0 δ r1362 := NS0.t ss1968 ns1382
                  have ns1971 : NS ad a0 d1403 r1409.2 := NS.t NS.r ns1427
                  have ns1972 : NS ad a0 r1722 r1823.2 := NS.t NS.r ns1840
                  have ns1973 : NS ad a0 r1722 r1909 := NS.t ns1972 ns1922
                  have ns1974 : NS ad a0 r1722 r1923.2 := NS.t ns1973 ns1935
                  have f1975 : (q_I d1397 12 24 a0).toInt = (q_I r1362 12 24 a0).toInt := ((show (q_I d1397 12 24 a0).toInt = (q_I d1391 12 24 a0).toInt from congrArg Int32.toInt (by rw [e1398]; exact rI_o (by decide))).trans (show (q_I d1391 12 24 a0).toInt = (q_I r1362 12 24 a0).toInt from congrArg Int32.toInt (by rw [e1392]; exact rI_o (by decide))))
                  have f1976 : (q_I r1923.2 12 26 a0).toInt = (q_I r1722 12 26 a0).toInt := ((show (q_I r1923.2 12 26 a0).toInt = (q_I r1909 12 26 a0).toInt from congrArg Int32.toInt (u1927 12 26 a0 (by decide))).trans ((show (q_I r1909 12 26 a0).toInt = (q_I r1823.2 12 26 a0).toInt from congrArg Int32.toInt (u1914 12 26 a0 (by decide))).trans (show (q_I r1823.2 12 26 a0).toInt = (q_I r1722 12 26 a0).toInt from congrArg Int32.toInt (u1829 12 26 a0 (by decide)))))
                  have ss1970 : TK ad a0 δ d1955 := TK.good L ss1969 e1392 e1398 e1404 ns1971 p1738 (u1741 112 (by decide) (by decide) (by decide)) ns1974 (show (0 : Int) = 0 by omega) (show (0 : Int) = 0 by omega) (show (0 : Int) = 0 by omega) (by omega) e1948 e1956 (show (((q_I r1923.2 12 24 a0).toNatClampNeg : Nat) : Int) = (q_I δ 12 24 a0).toInt by omega) (show (q_I r1923.2 12 25 a0).toInt = (q_I r1923.2 12 25 a0).toInt by omega) (show ((q_I d1947 12 24 a0) + (1 : Int32)).toInt = (q_I δ 12 24 a0).toInt + 1 by omega) (show (q_I r1923.2 12 5 a0).toInt = -1 by omega) (show (q_I r1923.2 12 26 a0).toInt ≤ 500 by omega)
                  have f1977 : (q_I d1955 12 2 a0).toInt = (q_I r1362 12 2 a0).toInt := ((show (q_I d1955 12 2 a0).toInt = (q_I d1947 12 2 a0).toInt from congrArg Int32.toInt (by rw [e1956]; exact rI_o (by decide))).trans ((show (q_I d1947 12 2 a0).toInt = (q_I r1923.2 12 2 a0).toInt from congrArg Int32.toInt (by rw [e1948]; rfl)).trans ((show (q_I r1923.2 12 2 a0).toInt = (q_I r1909 12 2 a0).toInt from congrArg Int32.toInt (u1927 12 2 a0 (by decide))).trans ((show (q_I r1909 12 2 a0).toInt = (q_I r1823.2 12 2 a0).toInt from congrArg Int32.toInt (u1914 12 2 a0 (by decide))).trans ((show (q_I r1823.2 12 2 a0).toInt = (q_I r1722 12 2 a0).toInt from congrArg Int32.toInt (u1829 12 2 a0 (by decide))).trans ((show (q_I r1722 12 2 a0).toInt = (q_I r1409.2 12 2 a0).toInt from congrArg Int32.toInt (u1739 12 2 a0 (by decide))).trans ((show (q_I r1409.2 12 2 a0).toInt = (q_I d1403 12 2 a0).toInt from congrArg Int32.toInt (u1415 12 2 a0 (by decide))).trans ((show (q_I d1403 12 2 a0).toInt = (q_I d1397 12 2 a0).toInt from congrArg Int32.toInt (by rw [e1404]; exact rI_o (by decide))).trans ((show (q_I d1397 12 2 a0).toInt = (q_I d1391 12 2 a0).toInt from congrArg Int32.toInt (by rw [e1398]; exact rI_o (by decide))).trans (show (q_I d1391 12 2 a0).toInt = (q_I r1362 12 2 a0).toInt from congrArg Int32.toInt (by rw [e1392]; exact rI_o (by decide))))))))))))
                  exact ok_some (show RI ad h.1 δ0 d1955 ∧ (kp [(12, 0), (12, 2), (12, 3), (12, 4), (12, 5), (12, 6), (12, 7), (12, 8), (12, 24), (12, 25), (12, 26), (12, 27)] δ d1955 ∧ q_V d1955 = q_V δ ∧ kr ad [100, 112, 113, 114, 115, 116, 117] δ d1955) ∧ TK ad a0 δ d1955 ∧ (0 ≤ (x1).toInt ∧ (x1).toInt ≤ (q_I δ 12 2 a0).toInt → (q_I d1955 12 2 a0).toInt = 0) ∧ ((x1).toInt < 0 ∨ (q_I δ 12 2 a0).toInt < (x1).toInt → (q_I d1955 12 2 a0).toInt = (q_I δ 12 2 a0).toInt) from ⟨i1957, ⟨kp_w (by decide) u1964, v1965, kr_w (by decide) v1966⟩, ss1970, by first | with_reducible assumption | omega, by first | with_reducible assumption | omega⟩)
                · have c1978 : r1923.1.toInt ≠ (q_I r1923.2 12 24 a0).toInt := o_ne h1938
                  unfold J_X12_thief_146
                  have ss1979 : NS ad a0 δ d1 := NS.t NS.r (NS.w e2 (by decide))
                  have ss1980 : NS0 ad a0 δ r1336.2 := NS0.t (NS.z ss1979) (NS.z ns1352)
                  have ss1981 : NS0 ad a0 δ r1362 := NS0.t ss1980 ns1382
                  have ns1983 : NS ad a0 d1403 r1409.2 := NS.t NS.r ns1427
                  have ns1984 : NS ad a0 r1722 r1823.2 := NS.t NS.r ns1840
                  have ns1985 : NS ad a0 r1722 r1909 := NS.t ns1984 ns1922
                  have ns1986 : NS ad a0 r1722 r1923.2 := NS.t ns1985 ns1935
                  have f1987 : (q_I d1397 12 24 a0).toInt = (q_I r1362 12 24 a0).toInt := ((show (q_I d1397 12 24 a0).toInt = (q_I d1391 12 24 a0).toInt from congrArg Int32.toInt (by rw [e1398]; exact rI_o (by decide))).trans (show (q_I d1391 12 24 a0).toInt = (q_I r1362 12 24 a0).toInt from congrArg Int32.toInt (by rw [e1392]; exact rI_o (by decide))))
                  have ss1982 : TK ad a0 δ r1923.2 := TK.bad L ss1981 e1392 e1398 e1404 ns1983 p1738 (u1741 112 (by decide) (by decide) (by decide)) ns1986 (show (0 : Int) = 0 by omega) (show (0 : Int) = 0 by omega) (show (0 : Int) = 0 by omega) (by omega)
                  have f1988 : (q_I r1923.2 12 2 a0).toInt = (q_I r1362 12 2 a0).toInt := ((show (q_I r1923.2 12 2 a0).toInt = (q_I r1909 12 2 a0).toInt from congrArg Int32.toInt (u1927 12 2 a0 (by decide))).trans ((show (q_I r1909 12 2 a0).toInt = (q_I r1823.2 12 2 a0).toInt from congrArg Int32.toInt (u1914 12 2 a0 (by decide))).trans ((show (q_I r1823.2 12 2 a0).toInt = (q_I r1722 12 2 a0).toInt from congrArg Int32.toInt (u1829 12 2 a0 (by decide))).trans ((show (q_I r1722 12 2 a0).toInt = (q_I r1409.2 12 2 a0).toInt from congrArg Int32.toInt (u1739 12 2 a0 (by decide))).trans ((show (q_I r1409.2 12 2 a0).toInt = (q_I d1403 12 2 a0).toInt from congrArg Int32.toInt (u1415 12 2 a0 (by decide))).trans ((show (q_I d1403 12 2 a0).toInt = (q_I d1397 12 2 a0).toInt from congrArg Int32.toInt (by rw [e1404]; exact rI_o (by decide))).trans ((show (q_I d1397 12 2 a0).toInt = (q_I d1391 12 2 a0).toInt from congrArg Int32.toInt (by rw [e1398]; exact rI_o (by decide))).trans (show (q_I d1391 12 2 a0).toInt = (q_I r1362 12 2 a0).toInt from congrArg Int32.toInt (by rw [e1392]; exact rI_o (by decide))))))))))
                  exact ok_some (show RI ad h.1 δ0 r1923.2 ∧ (kp [(12, 0), (12, 2), (12, 3), (12, 4), (12, 5), (12, 6), (12, 7), (12, 8), (12, 24), (12, 25), (12, 26), (12, 27)] δ r1923.2 ∧ q_V r1923.2 = q_V δ ∧ kr ad [100, 112, 113, 114, 115, 116, 117] δ r1923.2) ∧ TK ad a0 δ r1923.2 ∧ (0 ≤ (x1).toInt ∧ (x1).toInt ≤ (q_I δ 12 2 a0).toInt → (q_I r1923.2 12 2 a0).toInt = 0) ∧ ((x1).toInt < 0 ∨ (q_I δ 12 2 a0).toInt < (x1).toInt → (q_I r1923.2 12 2 a0).toInt = (q_I δ 12 2 a0).toInt) from ⟨i1925, ⟨kp_w (by decide) u1931, v1932, kr_w (by decide) v1933⟩, ss1982, by first | with_reducible assumption | omega, by first | with_reducible assumption | omega⟩)
