/-! the way to the law's loop, and the loop (by gen_start2.py) -/
theorem nw_L_8 : nw RL 8 11 := ⟨(RX11, TX11, 14), tyX11, rfl, by decide, iw_11, tyX11_ok, T_1 28 rfl rfl, T_1 29 rfl rfl, T_1 1 rfl rfl, (by decide +kernel)⟩
theorem nw_L_109 : nw RL 109 12 := ⟨(RX12, TX12, 60), tyX12, rfl, by decide, iw_12, tyX12_ok, T_6 165 rfl rfl, T_6 166 rfl rfl, T_1 13 rfl rfl, (by decide +kernel)⟩
theorem ic_L_108 : clI RL 108 m_X11_init 0 := ⟨rfl, rfl, T_1 31 rfl rfl, T_1 1 rfl rfl, T_1 32 rfl rfl, ⟨nh_RX11.1, nh_RX11.2, ar_X11_init⟩, by decide, Or.inl (T_1 30 rfl rfl)⟩
theorem ic_L_111 : clI RL 111 m_X12_init 0 := ⟨rfl, rfl, T_6 168 rfl rfl, T_1 13 rfl rfl, T_6 169 rfl rfl, ⟨nh_RX12.1, nh_RX12.2, ar_X12_init⟩, by decide, Or.inl (T_6 167 rfl rfl)⟩
def TLa : List tc := T_X11_init_59 ++ [ob 12 60]
def TLf : List tc := T_X12_init TLa 99 ++ [ar 14 1]
def hE : hp := ((fun _ _ _ => none, fun _ _ => none, fun _ => 99, fun _ => 0), (fun _ _ _ => 0, fun _ _ => 0, fun _ _ => 0, fun _ _ _ => none))
theorem Lay.nil : Lay [] [] hE := ⟨rfl, List.nodup_nil, fun _ _ => rfl, fun i c h => by simp at h⟩
def kd (t : List tc) (j : Nat) : Option Nat := t[j]?.map (fun c => c.1)
def wtb (t : List tc) : Bool := t.all fun c => (ft_.all fun q => c.1 != q.1 || (match c.2.2.1.getD q.2.1 none with
    | none => true
    | some j => kd t j == some q.2.2)) && et_.all fun q => c.1 != q.1 || c.2.2.1.all fun r => match r with
    | none => true
    | some j => kd t j == some q.2
theorem Lay.kd_of {t : List tc} {ad : List Nat} {h : hp} (L : Lay t ad h) {j b k : Nat} (hb : ad[j]? = some b) (hk : kd t j = some k) : q_K h.1 b = k := by
  unfold kd at hk
  obtain ⟨c, hc, e⟩ := Option.map_eq_some_iff.mp hk
  obtain ⟨a, h1, h2⟩ := L.2.2.2 j c hc
  rw [hb] at h1
  cases h1
  rw [h2.1, e]
theorem Lay.cell {t : List tc} {ad : List Nat} {h : hp} (L : Lay t ad h) {a : Nat} (ha : q_K h.1 a ≠ 99) : ∃ (i : Nat) (c : tc), t[i]? = some c ∧ ad[i]? = some a ∧ cok h ad a c := by
  have hm : a ∈ ad := Classical.byContradiction fun z => ha (L.2.2.1 a z)
  obtain ⟨i, hi, e⟩ := List.getElem_of_mem hm
  have h1 : ad[i]? = some a := by rw [List.getElem?_eq_getElem hi, e]
  have h2 : i < t.length := by rw [← L.1]; exact hi
  obtain ⟨a', h3, h4⟩ := L.2.2.2 i _ (List.getElem?_eq_getElem h2)
  rw [h1] at h3
  cases h3
  exact ⟨i, _, List.getElem?_eq_getElem h2, h1, h4⟩
theorem ft_lt : ∀ q ∈ ft_, q.1 < 13 := by decide
theorem et_ge : ∀ q ∈ et_, 16 ≤ q.1 ∧ q.1 < 20 := by decide
theorem Lay.wt {t : List tc} {ad : List Nat} {h : hp} (L : Lay t ad h) (hb : wtb t = true) : WT h.1 := by
  have hall : ∀ c ∈ t, (∀ q ∈ ft_, c.1 = q.1 → ∀ j, c.2.2.1.getD q.2.1 none = some j → kd t j = some q.2.2) ∧ ∀ q ∈ et_, c.1 = q.1 → ∀ r ∈ c.2.2.1, ∀ j, r = some j → kd t j = some q.2 := by
    intro c hc
    have h1 := List.all_eq_true.mp hb c hc
    rw [Bool.and_eq_true] at h1
    refine ⟨fun q hq e j hj => ?_, fun q hq e r hr j hj => ?_⟩
    · have h2 := List.all_eq_true.mp h1.1 q hq
      rw [hj] at h2
      simpa [e] using h2
    · have h2 := List.all_eq_true.mp h1.2 q hq
      simp only [e, bne_self_eq_false, Bool.false_or] at h2
      have h3 := List.all_eq_true.mp h2 r hr
      rw [hj] at h3
      simpa using h3
  refine ⟨fun q hq a b hK hO => ?_, fun q hq a i b hK hE => ?_⟩
  · have hlt := ft_lt q hq
    obtain ⟨i, c, h1, h2, h3⟩ := L.cell (a := a) (by omega)
    have e : c.1 = q.1 := h3.1.symm.trans hK
    have h4 := (h3.2.2.1 (by omega) q.2.1).1
    rw [e, hO] at h4
    cases hr : c.2.2.1.getD q.2.1 none with
    | none => rw [hr] at h4; cases h4
    | some j =>
      rw [hr] at h4
      obtain ⟨b', g1, g2⟩ := h4
      cases g2
      exact L.kd_of g1 ((hall c (List.mem_of_getElem? h1)).1 q hq e j hr)
  · have hlt := et_ge q hq
    obtain ⟨i', c, h1, h2, h3⟩ := L.cell (a := a) (by omega)
    have e : c.1 = q.1 := h3.1.symm.trans hK
    have h4 := h3.2.2.2.2.2 (by omega) i
    rw [hE] at h4
    cases hr : c.2.2.1.getD i none with
    | none => rw [hr] at h4; cases h4
    | some j =>
      rw [hr] at h4
      obtain ⟨b', g1, g2⟩ := h4
      cases g2
      have hm : some j ∈ c.2.2.1 := by
        rw [List.getD_eq_getElem?_getD] at hr
        cases hg : c.2.2.1[i]? with
        | none => rw [hg] at hr; cases hr
        | some r => rw [hg] at hr; cases hr; exact List.mem_of_getElem? hg
      exact L.kd_of g1 ((hall c (List.mem_of_getElem? h1)).2 q hq e (some j) hm j rfl)
set_option maxRecDepth 100000 in
theorem TLf_wt : wtb TLf = true := by decide +kernel
theorem TLa_len : TLa.length = 100 := by decide +kernel
theorem TLf_len : (T_X12_init TLa 99).length = 127 := by rw [ln_X12_init, TLa_len]
/-! numbers of the loop -/
theorem wI_of {n : Nat} (h : n < 2 ^ 31) : (Int32.ofNat n).toInt = n := Int32.toInt_ofNat_of_lt h
theorem wI_sub {L : Nat} (h : L < 2 ^ 30) : (Int32.ofNat L - 6).toInt = (L : Int) - 6 := by
  rw [Int32.toInt_sub, wI_of (by omega), show (6 : Int32).toInt = 6 from by decide]
  exact Int.bmod_eq_of_le (by omega) (by omega)
theorem wI_in {j L : Nat} (h : j < L) (hL : L < 2 ^ 30) : vp_in (Int32.ofNat j) L := by
  rintro (z | z)
  · rw [Int32.lt_iff_toInt_lt, wI_of (by omega), show (0 : Int32).toInt = 0 from by decide] at z
    omega
  · rw [Int32.toNatClampNeg_ofNat_of_lt (by omega)] at z
    omega
theorem wI_five : ∀ v : Int32, v ∈ ([1, 2, 3, 4, 5] : List Int32) → ∃ n : Nat, n ≤ 5 ∧ v = Int32.ofNat n := by
  intro v hv
  simp only [List.mem_cons, List.not_mem_nil, or_false] at hv
  rcases hv with rfl | rfl | rfl | rfl | rfl
  · exact ⟨1, by omega, rfl⟩
  · exact ⟨2, by omega, rfl⟩
  · exact ⟨3, by omega, rfl⟩
  · exact ⟨4, by omega, rfl⟩
  · exact ⟨5, by omega, rfl⟩
set_option maxHeartbeats 4000000 in
/-- THE LOOP: the invariant by the number of calls done -/
theorem law_loop {l : Launch} {D : va_G} {cy : Nat → ClassId} {N d M : Nat} {g : gp} (wt : WT g) (hl : l.stackTraces = false) (hd : 91 ≤ d) {x m o : Nat} (kx : q_K g x = 11) (km : q_K g m = 12) (ko : q_K g o = 14) (ho : q_N g o = 1) (hLM : D.2 102 1 < 6 * M + 6) (hM : M ≤ 1000) (Inv : Nat → dp → Prop) (step : ∀ k δ, k < M → Inv k δ → ∀ (w : Int32) (a : Nat → Int32), ∃ δ', LwS N g x m o w a δ δ' ∧ Inv (k + 1) δ') :
    ∀ (n k : Nat) (δ : dp), k + n = M → Inv k δ → AW l D cy m_L_law d (3 * n) (18 * n) (fun v _ => v = some (.int 1)) (fun _ _ => False) 23 (lv0 D x m o (Int32.ofNat (6 * k))) [] (g, δ) := by
  intro n
  induction n with
  | zero =>
    intro k δ hk hI
    refine a_iload 0 (μ := m_L_law) (pc := 23) dL_law_23 rfl ?_
    refine a_aload_n 4 0 (μ := m_L_law) (pc := 25) dL_law_25 rfl rfl ?_
    refine a_slen (μ := m_L_law) (pc := 26) dL_law_26 ?_
    refine a_bipush (v := 6) (μ := m_L_law) (pc := 27) dL_law_27 (by decide) ?_
    refine a_isub (μ := m_L_law) (pc := 29) dL_law_29 ?_
    refine a_icmp_gt 1672 (μ := m_L_law) (pc := 30) dL_law_30 (by decide) (fun _ => ?_) (fun z => absurd ?_ z)
    · refine a_iconst (v := 1) (μ := m_L_law) (pc := 1672) dL_law_1672 (by decide) ?_
      exact a_iret (μ := m_L_law) (pc := 1673) dL_law_1673 rfl rfl rfl
    · rw [Int32.lt_iff_toInt_lt, wI_sub (by omega), wI_of (by omega)]
      omega
  | succ n ih =>
    intro k δ hk hI
    refine a_iload 0 (μ := m_L_law) (pc := 23) dL_law_23 rfl ?_
    refine a_aload_n 4 0 (μ := m_L_law) (pc := 25) dL_law_25 rfl rfl ?_
    refine a_slen (μ := m_L_law) (pc := 26) dL_law_26 ?_
    refine a_bipush (v := 6) (μ := m_L_law) (pc := 27) dL_law_27 (by decide) ?_
    refine a_isub (μ := m_L_law) (pc := 29) dL_law_29 ?_
    refine a_icmp_gt 1672 (μ := m_L_law) (pc := 30) dL_law_30 (by decide) (fun _ => ?_) (fun z => ?_)
    · refine a_iconst (v := 1) (μ := m_L_law) (pc := 1672) dL_law_1672 (by decide) ?_
      exact a_iret (μ := m_L_law) (pc := 1673) dL_law_1673 rfl rfl rfl
    · rw [Int32.lt_iff_toInt_lt, wI_sub (by omega), wI_of (by omega)] at z
      have hle : 6 * k + 6 ≤ D.2 102 1 := by omega
      obtain ⟨δ', h1, h2⟩ := step k δ (by omega) hI (sc D (Int32.ofNat (6 * k)) &&& 63) (fun j => sc D (Int32.ofNat (6 * k) + Int32.ofNat j))
      refine a_wk (rc' := 3 * n + 3) (rs' := 18 * n + 18) (by omega) (by omega) ?_
      refine law_step (N := N) (δ2 := δ') wt hl hd kx km ko ho (wI_in (by omega) (by omega)) (fun v hv => ?_) h1 ?_
      · obtain ⟨j, hj, rfl⟩ := wI_five v hv
        rw [← Int32.ofNat_add]
        exact wI_in (by omega) (by omega)
      · refine a_iinc (v := Int32.ofNat (6 * (k + 1))) 0 (lv0 D x m o (Int32.ofNat (6 * (k + 1)))) (μ := m_L_law) (pc := 1666) dL_law_1666 rfl ?_ (by decide) rfl ?_
        · rw [show 6 * (k + 1) = 6 * k + 6 by omega, Int32.ofNat_add]
          rfl
        · refine a_goto 23 (μ := m_L_law) (pc := 1669) dL_law_1669 (by decide) ?_
          exact ih (k + 1) δ' (by omega) h2
set_option maxHeartbeats 4000000 in
set_option maxRecDepth 100000 in
theorem law_aw {l : Launch} {D : va_G} {cy : Nat → ClassId} {N d M : Nat} (hl : l.stackTraces = false) (hd : 91 ≤ d) (hLM : D.2 102 1 < 6 * M + 6) (hM : M ≤ 1000)
    (PH : ∀ (ad : List Nat) (h : hp) (x m o : Nat), Lay TLf ad h → ad[0]? = some x → ad[99]? = some m → ad[127]? = some o → ∃ Inv : Nat → dp → Prop, Inv 0 h.2 ∧ ∀ k δ, k < M → Inv k δ → ∀ (w : Int32) (a : Nat → Int32), ∃ δ', LwS N h.1 x m o w a δ δ' ∧ Inv (k + 1) δ') :
    AW l D cy m_L_law d (128 + 3 * M) (572784 + 18 * M) (fun v _ => v = some (.int 1)) (fun _ _ => False) 0 [(0, .ref (D.2 102 0))] [] hE := by
  refine t_new 0 Lay.nil rfl (ci := 11) (nf := 14) (rc' := 127 + 3 * M) (rs' := 572770 + 18 * M) (μ := m_L_law) (pc := 0) dL_law_0 nw_L_8 (by decide) (by omega) (by show _ + 14 ≤ _; omega) (fun x ad h _ X0 L => ?_)
  replace L : Lay [ob 11 14] ad h := L
  refine a_dup (μ := m_L_law) (pc := 3) dL_law_3 rfl ?_
  refine t_call (rc' := 29 + 3 * M) (rs' := 546614 + 18 * M) (t' := T_X11_init_59) (As := []) (rest := [.ref x]) (μ := m_L_law) (pc := 4) dL_law_4 ic_L_108 rfl (Nat.le_of_ble_eq_true rfl) (d' := d - 1) (by omega) (by omega) (by omega) (i_X11_init hl (d := d - 1) (by omega) L X0) (fun ad1 h1 p1 L1 => ?_) rfl
  replace X0 := p1 _ _ X0
  refine a_astore_n [(1, .ref x), (0, .ref (D.2 102 0))] (μ := m_L_law) (pc := 7) dL_law_7 rfl (by decide) rfl ?_
  refine t_new 99 L1 rfl (ci := 12) (nf := 60) (rc' := 28 + 3 * M) (rs' := 546554 + 18 * M) (μ := m_L_law) (pc := 8) dL_law_8 nw_L_109 (by decide) (by omega) (by show _ + 60 ≤ _; omega) (fun m ad2 h2 p2 M0 L2 => ?_)
  replace L2 : Lay TLa ad2 h2 := L2
  replace X0 := p2 _ _ X0
  refine a_dup (μ := m_L_law) (pc := 11) dL_law_11 rfl ?_
  refine t_call (rc' := 1 + 3 * M) (rs' := 1 + 18 * M) (t' := T_X12_init TLa 99) (As := []) (rest := [.ref m]) (μ := m_L_law) (pc := 12) dL_law_12 ic_L_111 rfl (Nat.le_of_ble_eq_true rfl) (d' := d - 1) (by omega) (by omega) (by omega) (i_X12_init hl (d := d - 1) (by omega) L2 M0 (by decide +kernel)) (fun ad3 h3 p3 L3 => ?_) rfl
  replace X0 := p3 _ _ X0
  replace M0 := p3 _ _ M0
  refine a_astore_n [(2, .ref m), (1, .ref x), (0, .ref (D.2 102 0))] (μ := m_L_law) (pc := 15) dL_law_15 rfl (by decide) rfl ?_
  refine a_iconst (v := 1) (μ := m_L_law) (pc := 16) dL_law_16 (by decide) ?_
  refine t_newI 127 L3 TLf_len 1 1 (ty := .long) (rc' := 3 * M) (rs' := 18 * M) (μ := m_L_law) (pc := 17) dL_law_17 rfl (by decide) ac_1 (by decide) (by decide) (by decide) (by omega) (by omega) (fun o ad4 h4 p4 O0 L4 => ?_)
  replace L4 : Lay TLf ad4 h4 := L4
  replace X0 := p4 _ _ X0
  replace M0 := p4 _ _ M0
  refine a_astore_n [(3, .ref o), (2, .ref m), (1, .ref x), (0, .ref (D.2 102 0))] (μ := m_L_law) (pc := 19) dL_law_19 rfl (by decide) rfl ?_
  refine a_iconst (v := 0) (μ := m_L_law) (pc := 20) dL_law_20 (by decide) ?_
  refine a_istore (lv0 D x m o 0) (μ := m_L_law) (pc := 21) dL_law_21 (by decide) rfl ?_
  obtain ⟨Inv, i0, step⟩ := PH ad4 h4 x m o L4 X0 M0 O0
  exact law_loop (N := N) (M := M) (L4.wt TLf_wt) hl hd (L4.K (x := (11, 14, 14)) (by decide +kernel) X0) (L4.K (x := (12, 60, 60)) (by decide +kernel) M0) (L4.K (x := (14, 0, 0)) (by decide +kernel) O0) (L4.Nn O0 (kd := 14) (nr := 0) (ni := 0) (by decide +kernel) (by decide) (by decide +kernel)) hLM hM Inv step M 0 h4.2 (by omega) i0
