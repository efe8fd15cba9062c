/-! one round of the law's loop -/
def LwS (N : Nat) (g : gp) (x m o : Nat) (w : Int32) (a : Nat → Int32) (δ δ2 : dp) : Prop :=
  if w = 0 then (∃ (b b2 : Int32) (δ1 : dp), D_X11_feed N g x (a 1) (a 2) (a 3) (a 4) (a 5) δ = some (b, δ1) ∧ D_X12_feed N g m (a 1) (a 2) (a 3) (a 4) (a 5) δ1 = some (b2, δ2))
  else if w = 1 then (∃ (kk b : Int32) (δ1 : dp), D_L_shape N g x (a 1) o δ = some (kk, δ1) ∧ D_X12_shape N g m (a 1) δ1 = some (b, δ2))
  else if w = 2 then (∃ (kk b : Int32) (δ1 : dp), D_L_thief N g x (a 1) o δ = some (kk, δ1) ∧ D_X12_thief N g m (a 1) δ1 = some (b, δ2))
  else if w = 3 then (∃ (b b2 : Int32) (δ1 : dp), D_X11_fault N g x  δ = some (b, δ1) ∧ D_X12_fault N g m  δ1 = some (b2, δ2))
  else if w = 4 then (∃ (kk b : Int32) (δ1 : dp), D_L_told N g x (a 1) o δ = some (kk, δ1) ∧ D_X12_told N g m (a 1) δ1 = some (b, δ2))
  else if w = 5 then (∃ (kk b : Int32) (δ1 : dp), D_L_put N g x (a 1) (a 2) o δ = some (kk, δ1) ∧ D_X12_put N g m (a 1) (a 2) δ1 = some (b, δ2))
  else if w = 6 then (∃ (kk b : Int32) (δ1 : dp), D_L_drop N g x (a 1) (a 2) o δ = some (kk, δ1) ∧ D_X12_drop N g m (a 1) (a 2) δ1 = some (b, δ2))
  else if w = 7 then (∃ (kk b : Int32) (δ1 : dp), D_L_has N g x (a 1) (a 2) o δ = some (kk, δ1) ∧ D_X12_has N g m (a 1) (a 2) δ1 = some (b, δ2) ∧ q_I δ2 12 0 m = kk ∧ (kk = 0 → q_J δ2 o 0 = (if b = 0 then 0 else 1)))
  else if w = 8 then (∃ (kk b : Int32) (δ1 : dp), D_L_of N g x (a 1) (a 2) o δ = some (kk, δ1) ∧ D_X12_of_ N g m (a 1) (a 2) δ1 = some (b, δ2))
  else if w = 9 then (∃ (kk b : Int32) (δ1 : dp), D_L_next N g x (a 1) (a 2) o δ = some (kk, δ1) ∧ D_X12_next N g m (a 1) (a 2) δ1 = some (b, δ2))
  else if w = 10 then (∃ (kk b : Int32) (δ1 : dp), D_L_before N g x (a 1) (a 2) o δ = some (kk, δ1) ∧ D_X12_before N g m (a 1) (a 2) δ1 = some (b, δ2))
  else if w = 11 then (∃ (kk b : Int32) (δ1 : dp), D_L_kth N g x (a 1) (a 2) o δ = some (kk, δ1) ∧ D_X12_kth N g m (a 1) (a 2) δ1 = some (b, δ2))
  else if w = 12 then (∃ (kk b : Int32) (δ1 : dp), D_L_between N g x (a 1) (a 2) (a 3) o δ = some (kk, δ1) ∧ D_X12_between N g m (a 1) (a 2) (a 3) δ1 = some (b, δ2))
  else if w = 13 then (∃ (kk b : Int32) (δ1 : dp), D_L_touches N g x (a 1) (a 2) (a 3) (a 4) o δ = some (kk, δ1) ∧ D_X12_touches N g m (a 1) (a 2) (a 3) (a 4) δ1 = some (b, δ2))
  else if w = 14 then (∃ (kk b : Int32) (δ1 : dp), D_L_size N g x (a 1) (a 2) o δ = some (kk, δ1) ∧ D_X12_size N g m (a 1) (a 2) δ1 = some (b, δ2))
  else if w = 15 then (∃ (kk b : Int32) (δ1 : dp), D_L_bound N g x (a 1) o δ = some (kk, δ1) ∧ D_X12_bound N g m (a 1) δ1 = some (b, δ2))
  else if w = 16 then (∃ (kk b : Int32) (δ1 : dp), D_L_worst N g x (a 1) (a 2) (a 3) o δ = some (kk, δ1) ∧ D_X12_worst N g m (a 1) (a 2) (a 3) δ1 = some (b, δ2))
  else if w = 17 then (∃ (kk b : Int32) (δ1 : dp), D_L_bad N g x (a 1) (a 2) (a 3) o δ = some (kk, δ1) ∧ D_X12_bad N g m (a 1) (a 2) (a 3) δ1 = some (b, δ2))
  else if w = 18 then (∃ (kk b : Int32) (δ1 : dp), D_L_was N g x (a 1) (a 2) (a 3) o δ = some (kk, δ1) ∧ D_X12_was N g m (a 1) (a 2) (a 3) δ1 = some (b, δ2))
  else if w = 19 then (∃ (kk b : Int32) (δ1 : dp), D_L_asked N g x (a 1) (a 2) (a 3) (a 4) o δ = some (kk, δ1) ∧ D_X12_asked N g m (a 1) (a 2) (a 3) (a 4) δ1 = some (b, δ2))
  else if w = 20 then (∃ (kk b : Int32) (δ1 : dp), D_L_since N g x (a 1) (a 2) (a 3) o δ = some (kk, δ1) ∧ D_X12_since N g m (a 1) (a 2) (a 3) δ1 = some (b, δ2))
  else if w = 21 then (∃ (kk b : Int32) (δ1 : dp), D_L_room N g x (a 1) (a 2) o δ = some (kk, δ1) ∧ D_X12_room N g m (a 1) (a 2) δ1 = some (b, δ2))
  else if w = 22 then (∃ (kk b : Int32) (δ1 : dp), D_L_joins N g x (a 1) (a 2) (a 3) o δ = some (kk, δ1) ∧ D_X12_joins N g m (a 1) (a 2) (a 3) δ1 = some (b, δ2))
  else if w = 23 then (∃ (kk b : Int32) (δ1 : dp), D_L_runs N g x (a 1) (a 2) o δ = some (kk, δ1) ∧ D_X12_runs N g m (a 1) (a 2) δ1 = some (b, δ2))
  else if w = 24 then (∃ (kk b : Int32) (δ1 : dp), D_L_steals N g x (a 1) (a 2) (a 3) (a 4) o δ = some (kk, δ1) ∧ D_X12_steals N g m (a 1) (a 2) (a 3) (a 4) δ1 = some (b, δ2))
  else if w = 25 then (∃ (kk b : Int32) (δ1 : dp), D_L_reached N g x (a 1) o δ = some (kk, δ1) ∧ D_X12_reached N g m (a 1) δ1 = some (b, δ2))
  else if w = 26 then (∃ (kk b : Int32) (δ1 : dp), D_L_row N g x (a 1) o δ = some (kk, δ1) ∧ D_X12_row N g m (a 1) δ1 = some (b, δ2))
  else if w = 27 then (∃ (kk b : Int32) (δ1 : dp), D_L_rowCall N g x (a 1) (a 2) o δ = some (kk, δ1) ∧ D_X12_rowCall N g m (a 1) (a 2) δ1 = some (b, δ2))
  else if w = 28 then (∃ (kk b : Int32) (δ1 : dp), D_L_split N g x (a 1) (a 2) (a 3) o δ = some (kk, δ1) ∧ D_X12_split N g m (a 1) (a 2) (a 3) δ1 = some (b, δ2))
  else if w = 29 then (∃ (kk b : Int32) (δ1 : dp), D_L_gap N g x (a 1) (a 2) o δ = some (kk, δ1) ∧ D_X12_gap N g m (a 1) (a 2) δ1 = some (b, δ2))
  else if w = 30 then (∃ (kk b : Int32) (δ1 : dp), D_L_seeds N g x (a 1) (a 2) (a 3) (a 4) (a 5) o δ = some (kk, δ1) ∧ D_X12_seeds N g m (a 1) (a 2) (a 3) (a 4) (a 5) δ1 = some (b, δ2))
  else if w = 31 then (∃ (b b2 : Int32) (δ1 : dp), D_X11_image N g x  δ = some (b, δ1) ∧ D_X12_image N g m  δ1 = some (b2, δ2))
  else if w = 32 then (∃ (b b2 : Int32) (δ1 : dp), D_X11_restore N g x  δ = some (b, δ1) ∧ D_X12_restore N g m  δ1 = some (b2, δ2))
  else if w = 33 then (∃ (b b2 : Int32) (δ1 : dp), D_X11_status N g x (a 1) δ = some (b, δ1) ∧ D_X12_status N g m (a 1) δ1 = some (b2, δ2))
  else if w = 34 then (∃ (b b2 : Int32) (δ1 : dp), D_X11_count N g x (a 1) δ = some (b, δ1) ∧ D_X12_count N g m (a 1) δ1 = some (b2, δ2))
  else δ2 = δ
theorem w_big {w : Int32} (h : ∀ n : Nat, n < 35 → w ≠ Int32.ofNat n) : w.toInt < 0 ∨ 34 < w.toInt := by
  by_cases h0 : w.toInt < 0
  · exact Or.inl h0
  · refine Or.inr (Int.not_le.mp fun h1 => ?_)
    have h2 : w.toInt.toNat < 35 := by omega
    refine h _ h2 ?_
    have h4 : w.toInt = ((w.toInt.toNat : Nat) : Int) := by omega
    exact (Int32.ofInt_toInt w).symm.trans ((congrArg Int32.ofInt h4).trans Int32.ofInt_eq_ofNat)
set_option maxHeartbeats 4000000 in
set_option maxRecDepth 100000 in
theorem law_step {l : Launch} {D : va_G} {cy : Nat → ClassId} {N d rc rs : Nat} {P : Option Value → hp → Prop} {X : String → hp → Prop} {g : gp} (wt : WT g) (hl : l.stackTraces = false) (hd : 91 ≤ d) {x m o : Nat} {i : Int32} {δ δ2 : dp} (kx : q_K g x = 11) (km : q_K g m = 12) (ko : q_K g o = 14) (ho : q_N g o = 1) (hi0 : vp_in i (D.2 102 1)) (hin : ∀ v : Int32, v ∈ [1, 2, 3, 4, 5] → vp_in (i + v) (D.2 102 1)) (hs : LwS N g x m o (sc D i &&& 63) (fun k => sc D (i + Int32.ofNat k)) δ δ2) (K : AW l D cy m_L_law d rc rs P X 1673 (lv0 D x m o i) [] (g, δ2)) : AW l D cy m_L_law d (rc + 3) (rs + 18) P X 33 (lv0 D x m o i) [] (g, δ) := by
  refine a_aload_n 4 0 (μ := m_L_law) (pc := 33) dL_law_33 rfl rfl ?_
  refine a_iload 0 (μ := m_L_law) (pc := 34) dL_law_34 rfl ?_
  refine a_sld (μ := m_L_law) (pc := 36) dL_law_36 hi0 ?_
  refine a_bipush (v := 63) (μ := m_L_law) (pc := 37) dL_law_37 (by decide) ?_
  refine a_iand (μ := m_L_law) (pc := 39) dL_law_39 ?_
  change AW _ _ _ _ _ _ _ _ _ 40 _ [.int (sc D i &&& 63)] _
  generalize hw : sc D i &&& 63 = w at hs ⊢
  unfold LwS at hs
  by_cases w0 : w = 0
  · rw [if_pos w0] at hs; subst w0; obtain ⟨b, b2, δ1, h1, h2⟩ := hs; exact a_tabIn (off := 156) 196 (μ := m_L_law) (pc := 40) dL_law_40 (by decide) (by decide) (by decide) (by decide) (lw_0 (N := N) wt hl hd kx km ko ho hin h1 h2 K)
  rw [if_neg w0] at hs
  by_cases w1 : w = 1
  · rw [if_pos w1] at hs; subst w1; obtain ⟨kk, b, δ1, h1, h2⟩ := hs; exact a_tabIn (off := 229) 269 (μ := m_L_law) (pc := 40) dL_law_40 (by decide) (by decide) (by decide) (by decide) (lw_1 (N := N) wt hl hd kx km ko ho hin h1 h2 K)
  rw [if_neg w1] at hs
  by_cases w2 : w = 2
  · rw [if_pos w2] at hs; subst w2; obtain ⟨kk, b, δ1, h1, h2⟩ := hs; exact a_tabIn (off := 257) 297 (μ := m_L_law) (pc := 40) dL_law_40 (by decide) (by decide) (by decide) (by decide) (lw_2 (N := N) wt hl hd kx km ko ho hin h1 h2 K)
  rw [if_neg w2] at hs
  by_cases w3 : w = 3
  · rw [if_pos w3] at hs; subst w3; obtain ⟨b, b2, δ1, h1, h2⟩ := hs; exact a_tabIn (off := 285) 325 (μ := m_L_law) (pc := 40) dL_law_40 (by decide) (by decide) (by decide) (by decide) (lw_3 (N := N) wt hl hd kx km ko ho hin h1 h2 K)
  rw [if_neg w3] at hs
  by_cases w4 : w = 4
  · rw [if_pos w4] at hs; subst w4; obtain ⟨kk, b, δ1, h1, h2⟩ := hs; exact a_tabIn (off := 298) 338 (μ := m_L_law) (pc := 40) dL_law_40 (by decide) (by decide) (by decide) (by decide) (lw_4 (N := N) wt hl hd kx km ko ho hin h1 h2 K)
  rw [if_neg w4] at hs
  by_cases w5 : w = 5
  · rw [if_pos w5] at hs; subst w5; obtain ⟨kk, b, δ1, h1, h2⟩ := hs; exact a_tabIn (off := 326) 366 (μ := m_L_law) (pc := 40) dL_law_40 (by decide) (by decide) (by decide) (by decide) (lw_5 (N := N) wt hl hd kx km ko ho hin h1 h2 K)
  rw [if_neg w5] at hs
  by_cases w6 : w = 6
  · rw [if_pos w6] at hs; subst w6; obtain ⟨kk, b, δ1, h1, h2⟩ := hs; exact a_tabIn (off := 366) 406 (μ := m_L_law) (pc := 40) dL_law_40 (by decide) (by decide) (by decide) (by decide) (lw_6 (N := N) wt hl hd kx km ko ho hin h1 h2 K)
  rw [if_neg w6] at hs
  by_cases w7 : w = 7
  · rw [if_pos w7] at hs; subst w7; obtain ⟨kk, b, δ1, h1, h2, h3, h4⟩ := hs; exact a_tabIn (off := 406) 446 (μ := m_L_law) (pc := 40) dL_law_40 (by decide) (by decide) (by decide) (by decide) (lw_7 (N := N) wt hl hd kx km ko ho hin h1 h2 h3 h4 K)
  rw [if_neg w7] at hs
  by_cases w8 : w = 8
  · rw [if_pos w8] at hs; subst w8; obtain ⟨kk, b, δ1, h1, h2⟩ := hs; exact a_tabIn (off := 481) 521 (μ := m_L_law) (pc := 40) dL_law_40 (by decide) (by decide) (by decide) (by decide) (lw_8 (N := N) wt hl hd kx km ko ho hin h1 h2 K)
  rw [if_neg w8] at hs
  by_cases w9 : w = 9
  · rw [if_pos w9] at hs; subst w9; obtain ⟨kk, b, δ1, h1, h2⟩ := hs; exact a_tabIn (off := 521) 561 (μ := m_L_law) (pc := 40) dL_law_40 (by decide) (by decide) (by decide) (by decide) (lw_9 (N := N) wt hl hd kx km ko ho hin h1 h2 K)
  rw [if_neg w9] at hs
  by_cases w10 : w = 10
  · rw [if_pos w10] at hs; subst w10; obtain ⟨kk, b, δ1, h1, h2⟩ := hs; exact a_tabIn (off := 561) 601 (μ := m_L_law) (pc := 40) dL_law_40 (by decide) (by decide) (by decide) (by decide) (lw_10 (N := N) wt hl hd kx km ko ho hin h1 h2 K)
  rw [if_neg w10] at hs
  by_cases w11 : w = 11
  · rw [if_pos w11] at hs; subst w11; obtain ⟨kk, b, δ1, h1, h2⟩ := hs; exact a_tabIn (off := 601) 641 (μ := m_L_law) (pc := 40) dL_law_40 (by decide) (by decide) (by decide) (by decide) (lw_11 (N := N) wt hl hd kx km ko ho hin h1 h2 K)
  rw [if_neg w11] at hs
  by_cases w12 : w = 12
  · rw [if_pos w12] at hs; subst w12; obtain ⟨kk, b, δ1, h1, h2⟩ := hs; exact a_tabIn (off := 641) 681 (μ := m_L_law) (pc := 40) dL_law_40 (by decide) (by decide) (by decide) (by decide) (lw_12 (N := N) wt hl hd kx km ko ho hin h1 h2 K)
  rw [if_neg w12] at hs
  by_cases w13 : w = 13
  · rw [if_pos w13] at hs; subst w13; obtain ⟨kk, b, δ1, h1, h2⟩ := hs; exact a_tabIn (off := 693) 733 (μ := m_L_law) (pc := 40) dL_law_40 (by decide) (by decide) (by decide) (by decide) (lw_13 (N := N) wt hl hd kx km ko ho hin h1 h2 K)
  rw [if_neg w13] at hs
  by_cases w14 : w = 14
  · rw [if_pos w14] at hs; subst w14; obtain ⟨kk, b, δ1, h1, h2⟩ := hs; exact a_tabIn (off := 757) 797 (μ := m_L_law) (pc := 40) dL_law_40 (by decide) (by decide) (by decide) (by decide) (lw_14 (N := N) wt hl hd kx km ko ho hin h1 h2 K)
  rw [if_neg w14] at hs
  by_cases w15 : w = 15
  · rw [if_pos w15] at hs; subst w15; obtain ⟨kk, b, δ1, h1, h2⟩ := hs; exact a_tabIn (off := 797) 837 (μ := m_L_law) (pc := 40) dL_law_40 (by decide) (by decide) (by decide) (by decide) (lw_15 (N := N) wt hl hd kx km ko ho hin h1 h2 K)
  rw [if_neg w15] at hs
  by_cases w16 : w = 16
  · rw [if_pos w16] at hs; subst w16; obtain ⟨kk, b, δ1, h1, h2⟩ := hs; exact a_tabIn (off := 825) 865 (μ := m_L_law) (pc := 40) dL_law_40 (by decide) (by decide) (by decide) (by decide) (lw_16 (N := N) wt hl hd kx km ko ho hin h1 h2 K)
  rw [if_neg w16] at hs
  by_cases w17 : w = 17
  · rw [if_pos w17] at hs; subst w17; obtain ⟨kk, b, δ1, h1, h2⟩ := hs; exact a_tabIn (off := 877) 917 (μ := m_L_law) (pc := 40) dL_law_40 (by decide) (by decide) (by decide) (by decide) (lw_17 (N := N) wt hl hd kx km ko ho hin h1 h2 K)
  rw [if_neg w17] at hs
  by_cases w18 : w = 18
  · rw [if_pos w18] at hs; subst w18; obtain ⟨kk, b, δ1, h1, h2⟩ := hs; exact a_tabIn (off := 929) 969 (μ := m_L_law) (pc := 40) dL_law_40 (by decide) (by decide) (by decide) (by decide) (lw_18 (N := N) wt hl hd kx km ko ho hin h1 h2 K)
  rw [if_neg w18] at hs
  by_cases w19 : w = 19
  · rw [if_pos w19] at hs; subst w19; obtain ⟨kk, b, δ1, h1, h2⟩ := hs; exact a_tabIn (off := 981) 1021 (μ := m_L_law) (pc := 40) dL_law_40 (by decide) (by decide) (by decide) (by decide) (lw_19 (N := N) wt hl hd kx km ko ho hin h1 h2 K)
  rw [if_neg w19] at hs
  by_cases w20 : w = 20
  · rw [if_pos w20] at hs; subst w20; obtain ⟨kk, b, δ1, h1, h2⟩ := hs; exact a_tabIn (off := 1045) 1085 (μ := m_L_law) (pc := 40) dL_law_40 (by decide) (by decide) (by decide) (by decide) (lw_20 (N := N) wt hl hd kx km ko ho hin h1 h2 K)
  rw [if_neg w20] at hs
  by_cases w21 : w = 21
  · rw [if_pos w21] at hs; subst w21; obtain ⟨kk, b, δ1, h1, h2⟩ := hs; exact a_tabIn (off := 1097) 1137 (μ := m_L_law) (pc := 40) dL_law_40 (by decide) (by decide) (by decide) (by decide) (lw_21 (N := N) wt hl hd kx km ko ho hin h1 h2 K)
  rw [if_neg w21] at hs
  by_cases w22 : w = 22
  · rw [if_pos w22] at hs; subst w22; obtain ⟨kk, b, δ1, h1, h2⟩ := hs; exact a_tabIn (off := 1137) 1177 (μ := m_L_law) (pc := 40) dL_law_40 (by decide) (by decide) (by decide) (by decide) (lw_22 (N := N) wt hl hd kx km ko ho hin h1 h2 K)
  rw [if_neg w22] at hs
  by_cases w23 : w = 23
  · rw [if_pos w23] at hs; subst w23; obtain ⟨kk, b, δ1, h1, h2⟩ := hs; exact a_tabIn (off := 1189) 1229 (μ := m_L_law) (pc := 40) dL_law_40 (by decide) (by decide) (by decide) (by decide) (lw_23 (N := N) wt hl hd kx km ko ho hin h1 h2 K)
  rw [if_neg w23] at hs
  by_cases w24 : w = 24
  · rw [if_pos w24] at hs; subst w24; obtain ⟨kk, b, δ1, h1, h2⟩ := hs; exact a_tabIn (off := 1229) 1269 (μ := m_L_law) (pc := 40) dL_law_40 (by decide) (by decide) (by decide) (by decide) (lw_24 (N := N) wt hl hd kx km ko ho hin h1 h2 K)
  rw [if_neg w24] at hs
  by_cases w25 : w = 25
  · rw [if_pos w25] at hs; subst w25; obtain ⟨kk, b, δ1, h1, h2⟩ := hs; exact a_tabIn (off := 1293) 1333 (μ := m_L_law) (pc := 40) dL_law_40 (by decide) (by decide) (by decide) (by decide) (lw_25 (N := N) wt hl hd kx km ko ho hin h1 h2 K)
  rw [if_neg w25] at hs
  by_cases w26 : w = 26
  · rw [if_pos w26] at hs; subst w26; obtain ⟨kk, b, δ1, h1, h2⟩ := hs; exact a_tabIn (off := 1321) 1361 (μ := m_L_law) (pc := 40) dL_law_40 (by decide) (by decide) (by decide) (by decide) (lw_26 (N := N) wt hl hd kx km ko ho hin h1 h2 K)
  rw [if_neg w26] at hs
  by_cases w27 : w = 27
  · rw [if_pos w27] at hs; subst w27; obtain ⟨kk, b, δ1, h1, h2⟩ := hs; exact a_tabIn (off := 1349) 1389 (μ := m_L_law) (pc := 40) dL_law_40 (by decide) (by decide) (by decide) (by decide) (lw_27 (N := N) wt hl hd kx km ko ho hin h1 h2 K)
  rw [if_neg w27] at hs
  by_cases w28 : w = 28
  · rw [if_pos w28] at hs; subst w28; obtain ⟨kk, b, δ1, h1, h2⟩ := hs; exact a_tabIn (off := 1389) 1429 (μ := m_L_law) (pc := 40) dL_law_40 (by decide) (by decide) (by decide) (by decide) (lw_28 (N := N) wt hl hd kx km ko ho hin h1 h2 K)
  rw [if_neg w28] at hs
  by_cases w29 : w = 29
  · rw [if_pos w29] at hs; subst w29; obtain ⟨kk, b, δ1, h1, h2⟩ := hs; exact a_tabIn (off := 1441) 1481 (μ := m_L_law) (pc := 40) dL_law_40 (by decide) (by decide) (by decide) (by decide) (lw_29 (N := N) wt hl hd kx km ko ho hin h1 h2 K)
  rw [if_neg w29] at hs
  by_cases w30 : w = 30
  · rw [if_pos w30] at hs; subst w30; obtain ⟨kk, b, δ1, h1, h2⟩ := hs; exact a_tabIn (off := 1481) 1521 (μ := m_L_law) (pc := 40) dL_law_40 (by decide) (by decide) (by decide) (by decide) (lw_30 (N := N) wt hl hd kx km ko ho hin h1 h2 K)
  rw [if_neg w30] at hs
  by_cases w31 : w = 31
  · rw [if_pos w31] at hs; subst w31; obtain ⟨b, b2, δ1, h1, h2⟩ := hs; exact a_tabIn (off := 1557) 1597 (μ := m_L_law) (pc := 40) dL_law_40 (by decide) (by decide) (by decide) (by decide) (lw_31 (N := N) wt hl hd kx km ko ho hin h1 h2 K)
  rw [if_neg w31] at hs
  by_cases w32 : w = 32
  · rw [if_pos w32] at hs; subst w32; obtain ⟨b, b2, δ1, h1, h2⟩ := hs; exact a_tabIn (off := 1570) 1610 (μ := m_L_law) (pc := 40) dL_law_40 (by decide) (by decide) (by decide) (by decide) (lw_32 (N := N) wt hl hd kx km ko ho hin h1 h2 K)
  rw [if_neg w32] at hs
  by_cases w33 : w = 33
  · rw [if_pos w33] at hs; subst w33; obtain ⟨b, b2, δ1, h1, h2⟩ := hs; exact a_tabIn (off := 1583) 1623 (μ := m_L_law) (pc := 40) dL_law_40 (by decide) (by decide) (by decide) (by decide) (lw_33 (N := N) wt hl hd kx km ko ho hin h1 h2 K)
  rw [if_neg w33] at hs
  by_cases w34 : w = 34
  · rw [if_pos w34] at hs; subst w34; obtain ⟨b, b2, δ1, h1, h2⟩ := hs; exact a_tabIn (off := 1608) 1648 (μ := m_L_law) (pc := 40) dL_law_40 (by decide) (by decide) (by decide) (by decide) (lw_34 (N := N) wt hl hd kx km ko ho hin h1 h2 K)
  rw [if_neg w34] at hs
  subst hs
  refine a_tabOut 1673 (μ := m_L_law) (pc := 40) dL_law_40 (w_big fun n hn e => ?_) (by decide) (a_wk (by omega) (by omega) K)
  revert e
  have hall : ∀ n : Nat, n < 35 → Int32.ofNat n ∈ ([0, 1, 2, 3, 4, 5, 6, 7, 8, 9, 10, 11, 12, 13, 14, 15, 16, 17, 18, 19, 20, 21, 22, 23, 24, 25, 26, 27, 28, 29, 30, 31, 32, 33, 34] : List Int32) := by decide
  intro e
  have hm := hall n hn
  rw [← e] at hm
  simp only [List.mem_cons, List.not_mem_nil, or_false] at hm
  rcases hm with h | h | h | h | h | h | h | h | h | h | h | h | h | h | h | h | h | h | h | h | h | h | h | h | h | h | h | h | h | h | h | h | h | h | h <;> contradiction
