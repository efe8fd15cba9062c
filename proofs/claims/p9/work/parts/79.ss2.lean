/-! reading a THIEF: what each piece does to its steps -/
def tN (a0 : Nat) (δ : dp) : Nat := (q_I δ 12 24 a0).toInt.toNat
def sN (a0 : Nat) (δ : dp) : Nat := (q_I δ 12 25 a0).toInt.toNat
def dN (a0 : Nat) (δ : dp) : Nat := (q_I δ 12 27 a0).toInt.toNat
/-- no step, no code is made -/
def NS (ad : List Nat) (a0 : Nat) (δ δ1 : dp) : Prop := q_R δ1 (Ad ad 112) = q_R δ (Ad ad 112) ∧ q_R δ1 (Ad ad 113) = q_R δ (Ad ad 113) ∧ q_R δ1 (Ad ad 114) = q_R δ (Ad ad 114) ∧ q_R δ1 (Ad ad 115) = q_R δ (Ad ad 115) ∧ q_R δ1 (Ad ad 116) = q_R δ (Ad ad 116) ∧ q_I δ1 12 24 a0 = q_I δ 12 24 a0 ∧ q_I δ1 12 25 a0 = q_I δ 12 25 a0 ∧ q_I δ1 12 26 a0 = q_I δ 12 26 a0 ∧ q_I δ1 12 27 a0 = q_I δ 12 27 a0 ∧ ((q_I δ1 12 5 a0).toInt = -1 → (q_I δ 12 5 a0).toInt = -1)
/-- the same, whether all was fine or not -/
def NS0 (ad : List Nat) (a0 : Nat) (δ δ1 : dp) : Prop := q_R δ1 (Ad ad 112) = q_R δ (Ad ad 112) ∧ q_R δ1 (Ad ad 113) = q_R δ (Ad ad 113) ∧ q_R δ1 (Ad ad 114) = q_R δ (Ad ad 114) ∧ q_R δ1 (Ad ad 115) = q_R δ (Ad ad 115) ∧ q_R δ1 (Ad ad 116) = q_R δ (Ad ad 116) ∧ q_I δ1 12 24 a0 = q_I δ 12 24 a0
theorem NS.z {ad : List Nat} {a0 : Nat} {δ δ1 : dp} (h : NS ad a0 δ δ1) : NS0 ad a0 δ δ1 := ⟨h.1, h.2.1, h.2.2.1, h.2.2.2.1, h.2.2.2.2.1, h.2.2.2.2.2.1⟩
theorem NS0.t {ad : List Nat} {a0 : Nat} {δ δ1 δ2 : dp} (h : NS0 ad a0 δ δ1) (k : NS0 ad a0 δ1 δ2) : NS0 ad a0 δ δ2 := by
  obtain ⟨a1, a2, a3, a4, a5, a6⟩ := h
  obtain ⟨b1, b2, b3, b4, b5, b6⟩ := k
  exact ⟨b1.trans a1, b2.trans a2, b3.trans a3, b4.trans a4, b5.trans a5, b6.trans a6⟩
theorem NS.r {ad : List Nat} {a0 : Nat} {δ : dp} : NS ad a0 δ δ := ⟨rfl, rfl, rfl, rfl, rfl, rfl, rfl, rfl, rfl, id⟩
theorem NS.t {ad : List Nat} {a0 : Nat} {δ δ1 δ2 : dp} (h : NS ad a0 δ δ1) (k : NS ad a0 δ1 δ2) : NS ad a0 δ δ2 := by
  obtain ⟨a1, a2, a3, a4, a5, a6, a7, a8, a9, a10⟩ := h
  obtain ⟨b1, b2, b3, b4, b5, b6, b7, b8, b9, b10⟩ := k
  exact ⟨b1.trans a1, b2.trans a2, b3.trans a3, b4.trans a4, b5.trans a5, b6.trans a6, b7.trans a7, b8.trans a8, b9.trans a9, fun z => a10 (b10 z)⟩
theorem NS.w {ad : List Nat} {a0 : Nat} {δ δ1 : dp} {k : Nat} {v : Int32} (e : δ1 = s_I δ 12 k a0 v) (hk : k ≠ 5 ∧ k ≠ 24 ∧ k ≠ 25 ∧ k ≠ 26 ∧ k ≠ 27) : NS ad a0 δ δ1 := by
  subst e
  refine ⟨rfl, rfl, rfl, rfl, rfl, rI_o (fun z => hk.2.1 z.2.symm), rI_o (fun z => hk.2.2.1 z.2.symm), rI_o (fun z => hk.2.2.2.1 z.2.symm), rI_o (fun z => hk.2.2.2.2 z.2.symm), fun z => ?_⟩
  rw [rI_o (fun z => hk.1 z.2.symm)] at z
  exact z
theorem NS.c {ad : List Nat} {a0 : Nat} {δ δ1 : dp} (h : NS ad a0 δ δ1) : cbx a0 δ1 = cbx a0 δ ∧ tN a0 δ1 = tN a0 δ ∧ sN a0 δ1 = sN a0 δ ∧ dN a0 δ1 = dN a0 δ := by
  unfold cbx tN sN dN
  rw [h.2.2.2.2.2.1, h.2.2.2.2.2.2.1, h.2.2.2.2.2.2.2.1, h.2.2.2.2.2.2.2.2.1]
  exact ⟨rfl, rfl, rfl, rfl⟩
/-- the steps of THIEF tN from sN on: those before stay, those made are well made -/
def SS (ad : List Nat) (a0 : Nat) (δ δ1 : dp) : Prop := q_I δ1 12 24 a0 = q_I δ 12 24 a0 ∧ q_I δ1 12 27 a0 = q_I δ 12 27 a0 ∧ sN a0 δ ≤ sN a0 δ1 ∧ cbx a0 δ ≤ cbx a0 δ1 ∧ (∀ i, i < 60 * tN a0 δ + sN a0 δ → q_R δ1 (Ad ad 113) i = q_R δ (Ad ad 113) i ∧ q_R δ1 (Ad ad 114) i = q_R δ (Ad ad 114) i ∧ q_R δ1 (Ad ad 115) i = q_R δ (Ad ad 115) i) ∧ (∀ i, i < cbx a0 δ → q_R δ1 (Ad ad 116) i = q_R δ (Ad ad 116) i) ∧ ((q_I δ1 12 5 a0).toInt = -1 → (q_I δ 12 5 a0).toInt = -1 ∧ stp (q_R δ1 (Ad ad 113)) (q_R δ1 (Ad ad 114)) (q_R δ1 (Ad ad 115)) (q_R δ1 (Ad ad 116)) (tN a0 δ) (sN a0 δ) (sN a0 δ1) (dN a0 δ) (cbx a0 δ1))
theorem SS.n {ad : List Nat} {a0 : Nat} {δ δ1 : dp} (h : NS ad a0 δ δ1) : SS ad a0 δ δ1 := by
  obtain ⟨c1, c2, c3, c4⟩ := h.c
  obtain ⟨a1, a2, a3, a4, a5, a6, a7, a8, a9, a10⟩ := h
  refine ⟨a6, a9, by omega, by omega, fun i _ => ?_, fun i _ => by rw [a5], fun z => ⟨a10 z, ?_⟩⟩
  · rw [a2, a3, a4]; exact ⟨rfl, rfl, rfl⟩
  · rw [c3]; exact stp_0
theorem SS.t {ad : List Nat} {a0 : Nat} {δ δ1 δ2 : dp} (h : SS ad a0 δ δ1) (k : SS ad a0 δ1 δ2) : SS ad a0 δ δ2 := by
  obtain ⟨a1, a2, a3, a4, a5, a6, a7⟩ := h
  obtain ⟨b1, b2, b3, b4, b5, b6, b7⟩ := k
  have ct : tN a0 δ1 = tN a0 δ := by unfold tN; rw [a1]
  have cd : dN a0 δ1 = dN a0 δ := by unfold dN; rw [a2]
  rw [ct] at b5 b7
  rw [cd] at b7
  refine ⟨b1.trans a1, b2.trans a2, by omega, by omega, fun i hi => ?_, fun i hi => (b6 i (by omega)).trans (a6 i hi), fun z => ?_⟩
  · obtain ⟨p1, p2, p3⟩ := b5 i (by omega)
    obtain ⟨q1, q2, q3⟩ := a5 i hi
    exact ⟨p1.trans q1, p2.trans q2, p3.trans q3⟩
  · obtain ⟨z1, s2⟩ := b7 z
    obtain ⟨z0, s1⟩ := a7 z1
    exact ⟨z0, stp_app a3 b3 (stp_c (fun i _ i2 => (b5 _ (by omega)).1) (fun i _ i2 => (b5 _ (by omega)).2.1) (fun i _ i2 => (b5 _ (by omega)).2.2) (fun i hi => b6 i hi) b4 s1) s2⟩
theorem SS.pre {ad : List Nat} {a0 : Nat} {δ δ1 δ2 : dp} (h : NS ad a0 δ δ1) (k : SS ad a0 δ1 δ2) : SS ad a0 δ δ2 := (SS.n h).t k
theorem SS.call {ad : List Nat} {h : hp} (L : Lay TLx ad h) {a0 : Nat} {δ d0 d1 d2 d3 d4 d5 d6 : dp} {v k f e : Int32} {i : Nat} (n0 : NS ad a0 δ d0) (e1 : d1 = s_I d0 12 25 a0 v) (e2 : d2 = s_R d1 (Ad ad 113) i k) (e3 : d3 = s_R d2 (Ad ad 114) i f) (u : US ad a0 d3 d4) (r3 : q_R d4 (Ad ad 113) = q_R d3 (Ad ad 113)) (r4 : q_R d4 (Ad ad 114) = q_R d3 (Ad ad 114)) (r5 : q_R d4 (Ad ad 115) = q_R d3 (Ad ad 115)) (f5 : q_I d4 12 25 a0 = q_I d3 12 25 a0) (f7 : q_I d4 12 27 a0 = q_I d3 12 27 a0) (e5 : d5 = s_R d4 (Ad ad 115) i e) (n6 : NS ad a0 d5 d6)
    (ht : 0 ≤ (q_I δ 12 24 a0).toInt) (hs : 0 ≤ (q_I δ 12 25 a0).toInt) (hc : 0 ≤ (q_I δ 12 26 a0).toInt) (hd : 0 ≤ (q_I δ 12 27 a0).toInt) (hd3 : (q_I δ 12 27 a0).toInt ≤ 3) (h46 : 0 ≤ (q_I d4 12 26 a0).toInt)
    (hi : (i : Int) = 60 * (q_I δ 12 24 a0).toInt + (q_I δ 12 25 a0).toInt) (hv : v.toInt = (q_I δ 12 25 a0).toInt + 1) (k1 : 0 ≤ k.toInt) (k2 : k.toInt ≤ 4) (hf : f.toInt = 500 * (q_I d3 12 24 a0).toInt + (q_I d3 12 26 a0).toInt) (he : e.toInt = 500 * (q_I d4 12 24 a0).toInt + (q_I d4 12 26 a0).toInt) : SS ad a0 δ d6 := by
  obtain ⟨m1, m2, m3, m4⟩ := n6.c
  obtain ⟨c1, c2, c3, c4⟩ := n0.c
  obtain ⟨a1, a2, a3, a4, a5, a6, a7, a8, a9, a10⟩ := n0
  obtain ⟨b1, b2, b3, b4, b5, b6, b7, b8, b9, b10⟩ := n6
  have ne34 : Ad ad 113 ≠ Ad ad 114 := ad_ne L (by decide) (by decide) (by decide)
  have ne35 : Ad ad 113 ≠ Ad ad 115 := ad_ne L (by decide) (by decide) (by decide)
  have ne45 : Ad ad 114 ≠ Ad ad 115 := ad_ne L (by decide) (by decide) (by decide)
  have ne63 : Ad ad 116 ≠ Ad ad 113 := ad_ne L (by decide) (by decide) (by decide)
  have ne64 : Ad ad 116 ≠ Ad ad 114 := ad_ne L (by decide) (by decide) (by decide)
  have ne65 : Ad ad 116 ≠ Ad ad 115 := ad_ne L (by decide) (by decide) (by decide)
  -- fields at d3
  have g24 : q_I d3 12 24 a0 = q_I δ 12 24 a0 := by rw [e3, e2, e1]; show q_I (s_I d0 12 25 a0 v) 12 24 a0 = _; rw [rI_o (fun z => absurd z.2 (by decide)), a6]
  have g25 : (q_I d3 12 25 a0).toInt = (q_I δ 12 25 a0).toInt + 1 := by rw [e3, e2, e1]; show (q_I (s_I d0 12 25 a0 v) 12 25 a0).toInt = _; rw [rI_s]; exact hv
  have g26 : q_I d3 12 26 a0 = q_I δ 12 26 a0 := by rw [e3, e2, e1]; show q_I (s_I d0 12 25 a0 v) 12 26 a0 = _; rw [rI_o (fun z => absurd z.2 (by decide)), a8]
  have g27 : q_I d3 12 27 a0 = q_I δ 12 27 a0 := by rw [e3, e2, e1]; show q_I (s_I d0 12 25 a0 v) 12 27 a0 = _; rw [rI_o (fun z => absurd z.2 (by decide)), a9]
  have g05 : q_I d3 12 5 a0 = q_I d0 12 5 a0 := by rw [e3, e2, e1]; show q_I (s_I d0 12 25 a0 v) 12 5 a0 = _; rw [rI_o (fun z => absurd z.2 (by decide))]
  have cb3 : cbx a0 d3 = cbx a0 δ := by unfold cbx; rw [g24, g26]
  -- rows at d3
  have w3 : ∀ j, q_R d3 (Ad ad 113) j = if j = i then k else q_R δ (Ad ad 113) j := by
    intro j
    rw [e3, rR_o ne34, e2, qR_sR, ← a2, e1]
    by_cases c : j = i
    · rw [if_pos ⟨rfl, c⟩, if_pos c]
    · rw [if_neg (fun z => c z.2), if_neg c]; rfl
  have w4 : ∀ j, q_R d3 (Ad ad 114) j = if j = i then f else q_R δ (Ad ad 114) j := by
    intro j
    rw [e3, qR_sR, ← a3]
    by_cases c : j = i
    · rw [if_pos ⟨rfl, c⟩, if_pos c]
    · rw [if_neg (fun z => c z.2), if_neg c, e2, rR_o (Ne.symm ne34), e1]; rfl
  have w5 : q_R d3 (Ad ad 115) = q_R δ (Ad ad 115) := by rw [e3, rR_o (Ne.symm ne45), e2, rR_o (Ne.symm ne35), e1]; exact a4
  have w6 : q_R d3 (Ad ad 116) = q_R δ (Ad ad 116) := by rw [e3, rR_o ne64, e2, rR_o ne63, e1]; exact a5
  obtain ⟨⟨u1, u2, u3, u4⟩, u5⟩ := u
  -- at d6
  have z24 : q_I d6 12 24 a0 = q_I δ 12 24 a0 := by rw [b6, e5]; exact u1.trans g24
  have z27 : q_I d6 12 27 a0 = q_I δ 12 27 a0 := by rw [b9, e5]; exact f7.trans g27
  have z25 : (q_I d6 12 25 a0).toInt = (q_I δ 12 25 a0).toInt + 1 := by rw [b7, e5]; exact (congrArg Int32.toInt f5).trans g25
  have cb5 : cbx a0 d5 = cbx a0 d4 := by rw [e5]; rfl
  have x3 : ∀ j, q_R d6 (Ad ad 113) j = if j = i then k else q_R δ (Ad ad 113) j := by intro j; rw [b2, e5, rR_o ne35, r3]; exact w3 j
  have x4 : ∀ j, q_R d6 (Ad ad 114) j = if j = i then f else q_R δ (Ad ad 114) j := by intro j; rw [b3, e5, rR_o ne45, r4]; exact w4 j
  have x5 : ∀ j, q_R d6 (Ad ad 115) j = if j = i then e else q_R δ (Ad ad 115) j := by
    intro j
    rw [b4, e5, qR_sR, r5, w5]
    by_cases c : j = i
    · rw [if_pos ⟨rfl, c⟩, if_pos c]
    · rw [if_neg (fun z => c z.2), if_neg c]
  have x6 : q_R d6 (Ad ad 116) = q_R d4 (Ad ad 116) := by rw [b5, e5, rR_o ne65]
  have hS : sN a0 d6 = sN a0 δ + 1 := by unfold sN; omega
  have hii : i = 60 * tN a0 δ + sN a0 δ := by unfold tN sN; omega
  refine ⟨z24, z27, by omega, by omega, fun j hj => ?_, fun j hj => ?_, fun z => ?_⟩
  · rw [x3, x4, x5, if_neg (by omega), if_neg (by omega), if_neg (by omega)]; exact ⟨rfl, rfl, rfl⟩
  · rw [x6, u3 j (by omega), w6]
  · have z5 := b10 z
    rw [e5] at z5
    have z4 : (q_I d4 12 5 a0).toInt = -1 := z5
    have z3 := u4 z4
    rw [g05] at z3
    refine ⟨a10 z3, ?_⟩
    rw [hS]
    have hr := u5 z4 0
    have hc4 : cbx a0 d6 = cbx a0 d4 := by rw [m1, cb5]
    refine stp_call (f := cbx a0 d3) (e := cbx a0 d4) (by unfold dN; omega) ?_ ?_ ?_ ?_ ?_ u2 (by omega) ?_
    · rw [x3, if_pos hii.symm]; exact k1
    · rw [x3, if_pos hii.symm]; exact k2
    · rw [x4, if_pos hii.symm, hf, cb3]; unfold cbx; rw [g24, g26]; omega
    · rw [x5, if_pos hii.symm, he]; unfold cbx; rw [u1, g24]; omega
    · rw [cb3]; unfold cbx tN; omega
    · rw [x6]; exact hr
theorem SS.times {ad : List Nat} {h : hp} (L : Lay TLx ad h) {a0 : Nat} {δ d0 d1 d2 d3 d4 d5 d6 d7 d8 d9 d10 : dp} {v k f e w w2 : Int32} {i : Nat} (n0 : NS ad a0 δ d0) (e1 : d1 = s_I d0 12 25 a0 v) (e2 : d2 = s_R d1 (Ad ad 113) i k) (n3 : NS ad a0 d2 d3) (e4 : d4 = s_R d3 (Ad ad 114) i f) (n5 : NS ad a0 d4 d5) (e6 : d6 = s_I d5 12 27 a0 w) (S : SS ad a0 d6 d7) (e8 : d8 = s_I d7 12 27 a0 w2) (n9 : NS ad a0 d8 d9) (e10 : d10 = s_R d9 (Ad ad 115) i e)
    (ht : 0 ≤ (q_I δ 12 24 a0).toInt) (hs : 0 ≤ (q_I δ 12 25 a0).toInt) (hd : 0 ≤ (q_I δ 12 27 a0).toInt) (hd2 : (q_I δ 12 27 a0).toInt ≤ 2)
    (hi : (i : Int) = 60 * (q_I δ 12 24 a0).toInt + (q_I δ 12 25 a0).toInt) (hv : v.toInt = (q_I δ 12 25 a0).toInt + 1) (hk : k.toInt = 5) (hq : f.toInt ≤ 1000000) (hw : w.toInt = (q_I δ 12 27 a0).toInt + 1) (hw2 : w2.toInt = (q_I d7 12 27 a0).toInt - 1) (he : e.toInt = (q_I d9 12 25 a0).toInt) : SS ad a0 δ d10 := by
  obtain ⟨a1, a2, a3, a4, a5, a6, a7, a8, a9, a10⟩ := n0
  obtain ⟨b1, b2, b3, b4, b5, b6, b7, b8, b9, b10⟩ := n3
  obtain ⟨c1, c2, c3, c4, c5, c6, c7, c8, c9, c10⟩ := n5
  obtain ⟨m1, m2, m3, m4, m5, m6, m7, m8, m9, m10⟩ := n9
  obtain ⟨s1, s2, s3, s4, s5, s6, s7⟩ := S
  have ne34 : Ad ad 113 ≠ Ad ad 114 := ad_ne L (by decide) (by decide) (by decide)
  have ne35 : Ad ad 113 ≠ Ad ad 115 := ad_ne L (by decide) (by decide) (by decide)
  have ne45 : Ad ad 114 ≠ Ad ad 115 := ad_ne L (by decide) (by decide) (by decide)
  have ne63 : Ad ad 116 ≠ Ad ad 113 := ad_ne L (by decide) (by decide) (by decide)
  have ne64 : Ad ad 116 ≠ Ad ad 114 := ad_ne L (by decide) (by decide) (by decide)
  have ne65 : Ad ad 116 ≠ Ad ad 115 := ad_ne L (by decide) (by decide) (by decide)
  -- d6 against δ
  have g24 : q_I d6 12 24 a0 = q_I δ 12 24 a0 := by
    rw [e6, rI_o (fun z => absurd z.2 (by decide)), c6, e4]
    show q_I d3 12 24 a0 = _
    rw [b6, e2, e1]
    show q_I (s_I d0 12 25 a0 v) 12 24 a0 = _
    rw [rI_o (fun z => absurd z.2 (by decide)), a6]
  have g25 : (q_I d6 12 25 a0).toInt = (q_I δ 12 25 a0).toInt + 1 := by
    rw [e6, rI_o (fun z => absurd z.2 (by decide)), c7, e4]
    show (q_I d3 12 25 a0).toInt = _
    rw [b7, e2, e1]
    show (q_I (s_I d0 12 25 a0 v) 12 25 a0).toInt = _
    rw [rI_s]; exact hv
  have g26 : q_I d6 12 26 a0 = q_I δ 12 26 a0 := by
    rw [e6, rI_o (fun z => absurd z.2 (by decide)), c8, e4]
    show q_I d3 12 26 a0 = _
    rw [b8, e2, e1]
    show q_I (s_I d0 12 25 a0 v) 12 26 a0 = _
    rw [rI_o (fun z => absurd z.2 (by decide)), a8]
  have g27 : (q_I d6 12 27 a0).toInt = (q_I δ 12 27 a0).toInt + 1 := by rw [e6, rI_s]; exact hw
  have g05 : (q_I d6 12 5 a0).toInt = -1 → (q_I δ 12 5 a0).toInt = -1 := by
    intro z
    rw [e6, rI_o (fun z => absurd z.2 (by decide))] at z
    have z4 := c10 z
    rw [e4] at z4
    have z3 := b10 z4
    rw [e2, e1] at z3
    have z2 : (q_I (s_I d0 12 25 a0 v) 12 5 a0).toInt = -1 := z3
    rw [rI_o (fun z => absurd z.2 (by decide))] at z2
    exact a10 z2
  have w3 : ∀ j, q_R d6 (Ad ad 113) j = if j = i then k else q_R δ (Ad ad 113) j := by
    intro j
    have : q_R d6 (Ad ad 113) = q_R d2 (Ad ad 113) := by
      rw [e6]
      show q_R d5 (Ad ad 113) = _
      rw [c2, e4, rR_o ne34, b2]
    rw [this, e2, qR_sR, ← a2, e1]
    by_cases c : j = i
    · rw [if_pos ⟨rfl, c⟩, if_pos c]
    · rw [if_neg (fun z => c z.2), if_neg c]; rfl
  have w4 : ∀ j, q_R d6 (Ad ad 114) j = if j = i then f else q_R δ (Ad ad 114) j := by
    intro j
    have : q_R d6 (Ad ad 114) = q_R d4 (Ad ad 114) := by
      rw [e6]
      show q_R d5 (Ad ad 114) = _
      rw [c3]
    rw [this, e4, qR_sR, b3, e2, rR_o (Ne.symm ne34), e1]
    by_cases c : j = i
    · rw [if_pos ⟨rfl, c⟩, if_pos c]
    · rw [if_neg (fun z => c z.2), if_neg c]; show q_R d0 (Ad ad 114) j = _; rw [a3]
  have w5 : q_R d6 (Ad ad 115) = q_R δ (Ad ad 115) := by
    rw [e6]
    show q_R d5 (Ad ad 115) = _
    rw [c4, e4, rR_o (Ne.symm ne45), b4, e2, rR_o (Ne.symm ne35), e1]
    exact a4
  have w6 : q_R d6 (Ad ad 116) = q_R δ (Ad ad 116) := by
    rw [e6]
    show q_R d5 (Ad ad 116) = _
    rw [c5, e4, rR_o ne64, b5, e2, rR_o ne63, e1]
    exact a5
  -- d10 against d7
  have x3 : q_R d10 (Ad ad 113) = q_R d7 (Ad ad 113) := by rw [e10, rR_o ne35, m2, e8]; rfl
  have x4 : q_R d10 (Ad ad 114) = q_R d7 (Ad ad 114) := by rw [e10, rR_o ne45, m3, e8]; rfl
  have x5 : ∀ j, q_R d10 (Ad ad 115) j = if j = i then e else q_R d7 (Ad ad 115) j := by
    intro j
    rw [e10, qR_sR, m4, e8]
    by_cases c : j = i
    · rw [if_pos ⟨rfl, c⟩, if_pos c]
    · rw [if_neg (fun z => c z.2), if_neg c]; rfl
  have x6 : q_R d10 (Ad ad 116) = q_R d7 (Ad ad 116) := by rw [e10, rR_o ne65, m5, e8]; rfl
  have h24 : q_I d10 12 24 a0 = q_I δ 12 24 a0 := by
    rw [e10]
    show q_I d9 12 24 a0 = _
    rw [m6, e8, rI_o (fun z => absurd z.2 (by decide)), s1, g24]
  have h25 : q_I d10 12 25 a0 = q_I d7 12 25 a0 := by
    rw [e10]
    show q_I d9 12 25 a0 = _
    rw [m7, e8, rI_o (fun z => absurd z.2 (by decide))]
  have h26 : q_I d10 12 26 a0 = q_I d7 12 26 a0 := by
    rw [e10]
    show q_I d9 12 26 a0 = _
    rw [m8, e8, rI_o (fun z => absurd z.2 (by decide))]
  have h27 : q_I d10 12 27 a0 = q_I δ 12 27 a0 := by
    apply i_eq
    rw [e10]
    show (q_I d9 12 27 a0).toInt = _
    rw [m9, e8, rI_s, hw2, s2, g27]
    omega
  have hT : tN a0 d6 = tN a0 δ := by unfold tN; rw [g24]
  have hS6 : sN a0 d6 = sN a0 δ + 1 := by unfold sN; omega
  have hD6 : dN a0 d6 = dN a0 δ + 1 := by unfold dN; omega
  have hC6 : cbx a0 d6 = cbx a0 δ := by unfold cbx; rw [g24, g26]
  have hS10 : sN a0 d10 = sN a0 d7 := by unfold sN; rw [h25]
  have hC10 : cbx a0 d10 = cbx a0 d7 := by unfold cbx; rw [h26, h24, s1, g24]
  have hii : i = 60 * tN a0 δ + sN a0 δ := by unfold tN sN; omega
  rw [hT, hS6] at s5
  rw [hC6] at s6
  refine ⟨h24, h27, by omega, by omega, fun j hj => ?_, fun j hj => ?_, fun z => ?_⟩
  · obtain ⟨p1, p2, p3⟩ := s5 j (by omega)
    rw [x3, x4, x5, p1, p2, if_neg (by omega), p3, w3, w4, w5, if_neg (by omega), if_neg (by omega)]
    exact ⟨rfl, rfl, rfl⟩
  · rw [x6, s6 j hj, w6]
  · have z7 : (q_I d7 12 5 a0).toInt = -1 := by
      rw [e10] at z
      have z9 := m10 z
      rw [e8, rI_o (fun z => absurd z.2 (by decide))] at z9
      exact z9
    obtain ⟨z6, st⟩ := s7 z7
    refine ⟨g05 z6, ?_⟩
    rw [hT, hS6, hD6] at st
    rw [hS10, hC10, x3, x4, x6]
    have s3' : sN a0 δ + 1 ≤ sN a0 d7 := by omega
    refine stp_times (by unfold dN; omega) (by omega) ?_ ?_ ?_ (stp_c (fun _ _ _ => rfl) (fun _ _ _ => rfl) (fun j _ _ => by rw [x5, if_neg (by omega)]) (fun _ _ => rfl) (Nat.le_refl _) st)
    · obtain ⟨p1, p2, p3⟩ := s5 (60 * tN a0 δ + sN a0 δ) (by omega)
      rw [p1, w3, if_pos hii.symm]; exact hk
    · obtain ⟨p1, p2, p3⟩ := s5 (60 * tN a0 δ + sN a0 δ) (by omega)
      rw [p2, w4, if_pos hii.symm]; exact hq
    · rw [x5, if_pos hii.symm, he, m7, e8, rI_o (fun z => absurd z.2 (by decide))]
      have : 0 ≤ (q_I d7 12 25 a0).toInt ∨ sN a0 d7 = 0 := by unfold sN; omega
      unfold sN at this ⊢
      unfold sN at s3'
      omega
/-- all THIEVES are well made -/
def TH (ad : List Nat) (a0 : Nat) (δ : dp) : Prop := ∀ t, t < tN a0 δ → stp (q_R δ (Ad ad 113)) (q_R δ (Ad ad 114)) (q_R δ (Ad ad 115)) (q_R δ (Ad ad 116)) t 0 (q_R δ (Ad ad 112) t).toInt.toNat 0 (500 * t + 500)
def TK (ad : List Nat) (a0 : Nat) (δ δ1 : dp) : Prop := (∀ t, t < tN a0 δ → (q_R δ (Ad ad 112) t).toInt ≤ 60) → TH ad a0 δ → TH ad a0 δ1
theorem stp_e {κ φ τ ρ κ' φ' τ' ρ' : Nat → Int32} {t s0 s1 d c1 : Nat} (hk : ∀ i, s0 ≤ i → i < s1 → κ' (60 * t + i) = κ (60 * t + i)) (hf : ∀ i, s0 ≤ i → i < s1 → φ' (60 * t + i) = φ (60 * t + i)) (ht : ∀ i, s0 ≤ i → i < s1 → τ' (60 * t + i) = τ (60 * t + i)) (hr : ∀ i, i < c1 → ρ' i = ρ i) (S : stp κ φ τ ρ t s0 s1 d c1) : stp κ' φ' τ' ρ' t s0 s1 d c1 := stp_c hk hf ht hr (Nat.le_refl _) S
theorem TK.n {ad : List Nat} {a0 : Nat} {δ δ1 : dp} (h : NS0 ad a0 δ δ1) : TK ad a0 δ δ1 := by
  obtain ⟨a1, a2, a3, a4, a5, a6⟩ := h
  have c2 : tN a0 δ1 = tN a0 δ := by unfold tN; rw [a6]
  intro _ T t ht
  rw [a1, a2, a3, a4, a5]
  exact T t (by omega)
theorem TK.bad {ad : List Nat} {h : hp} (L : Lay TLx ad h) {a0 : Nat} {δ d0 d1 d2 d3 d4 d5 d6 : dp} {v w x : Int32} (n0 : NS0 ad a0 δ d0) (e1 : d1 = s_I d0 12 25 a0 v) (e2 : d2 = s_I d1 12 26 a0 w) (e3 : d3 = s_I d2 12 27 a0 x) (n4 : NS ad a0 d3 d4) (S : SS ad a0 d4 d5) (r5 : q_R d5 (Ad ad 112) = q_R d4 (Ad ad 112)) (n6 : NS ad a0 d5 d6) (hv : v.toInt = 0) (hw : w.toInt = 0) (hx : x.toInt = 0) (ht : 0 ≤ (q_I δ 12 24 a0).toInt) : TK ad a0 δ d6 := by
  obtain ⟨a1, a2, a3, a4, a5, a6⟩ := n0
  obtain ⟨b1, b2, b3, b4, b5, b6, b7, b8, b9, b10⟩ := n4
  obtain ⟨m1, m2, m3, m4⟩ := n6.c
  obtain ⟨c1, c2, c3, c4, c5, c6, c7, c8, c9, c10⟩ := n6
  obtain ⟨s1, s2, s3, s4, s5, s6, s7⟩ := S
  have i4 : q_I d4 12 24 a0 = q_I δ 12 24 a0 := by rw [b6, e3, rI_o (fun z => absurd z.2 (by decide)), e2, rI_o (fun z => absurd z.2 (by decide)), e1, rI_o (fun z => absurd z.2 (by decide)), a6]
  have i6 : (q_I d4 12 26 a0).toInt = 0 := by rw [b8, e3, rI_o (fun z => absurd z.2 (by decide)), e2, rI_s]; exact hw
  have t4 : tN a0 d4 = tN a0 δ := by unfold tN; rw [i4]
  have t6 : tN a0 d6 = tN a0 δ := by rw [m2]; unfold tN; rw [s1, i4]
  have k4 : cbx a0 d4 = 500 * tN a0 δ := by unfold cbx tN; rw [i6, i4]; omega
  have q2 : q_R d4 (Ad ad 112) = q_R δ (Ad ad 112) := by rw [b1, e3, e2, e1]; exact a1
  have q3 : q_R d4 (Ad ad 113) = q_R δ (Ad ad 113) := by rw [b2, e3, e2, e1]; exact a2
  have q4 : q_R d4 (Ad ad 114) = q_R δ (Ad ad 114) := by rw [b3, e3, e2, e1]; exact a3
  have q5 : q_R d4 (Ad ad 115) = q_R δ (Ad ad 115) := by rw [b4, e3, e2, e1]; exact a4
  have q6 : q_R d4 (Ad ad 116) = q_R δ (Ad ad 116) := by rw [b5, e3, e2, e1]; exact a5
  intro hm T t ht
  rw [t6] at ht
  have hmt := hm t ht
  have hn : (q_R δ (Ad ad 112) t).toInt.toNat ≤ 60 := by omega
  rw [c1, c2, c3, c4, c5, r5, q2]
  refine stp_e (fun i _ i2 => ?_) (fun i _ i2 => ?_) (fun i _ i2 => ?_) (fun i hi => ?_) (T t ht)
  · rw [(s5 _ (by omega)).1, q3]
  · rw [(s5 _ (by omega)).2.1, q4]
  · rw [(s5 _ (by omega)).2.2, q5]
  · rw [s6 i (by omega), q6]
theorem TK.good {ad : List Nat} {h : hp} (L : Lay TLx ad h) {a0 : Nat} {δ d0 d1 d2 d3 d4 d5 d6 d7 d8 : dp} {v w x y z : Int32} {i : Nat} (n0 : NS0 ad a0 δ d0) (e1 : d1 = s_I d0 12 25 a0 v) (e2 : d2 = s_I d1 12 26 a0 w) (e3 : d3 = s_I d2 12 27 a0 x) (n4 : NS ad a0 d3 d4) (S : SS ad a0 d4 d5) (r5 : q_R d5 (Ad ad 112) = q_R d4 (Ad ad 112)) (n6 : NS ad a0 d5 d6) (hv : v.toInt = 0) (hw : w.toInt = 0) (hx : x.toInt = 0) (ht : 0 ≤ (q_I δ 12 24 a0).toInt) (e7 : d7 = s_R d6 (Ad ad 112) i y) (e8 : d8 = s_I d7 12 24 a0 z) (hi : (i : Int) = (q_I δ 12 24 a0).toInt) (hy : y.toInt = (q_I d6 12 25 a0).toInt) (hz : z.toInt = (q_I δ 12 24 a0).toInt + 1) (hb : (q_I d6 12 5 a0).toInt = -1) (hc : (q_I d6 12 26 a0).toInt ≤ 500) : TK ad a0 δ d8 := by
  have B := TK.bad L n0 e1 e2 e3 n4 S r5 n6 hv hw hx ht
  obtain ⟨a1, a2, a3, a4, a5, a6⟩ := n0
  obtain ⟨b1, b2, b3, b4, b5, b6, b7, b8, b9, b10⟩ := n4
  obtain ⟨m1, m2, m3, m4⟩ := n6.c
  obtain ⟨c1, c2, c3, c4, c5, c6, c7, c8, c9, c10⟩ := n6
  obtain ⟨s1, s2, s3, s4, s5, s6, s7⟩ := S
  have i4 : q_I d4 12 24 a0 = q_I δ 12 24 a0 := by rw [b6, e3, rI_o (fun z => absurd z.2 (by decide)), e2, rI_o (fun z => absurd z.2 (by decide)), e1, rI_o (fun z => absurd z.2 (by decide)), a6]
  have i5 : (q_I d4 12 25 a0).toInt = 0 := by rw [b7, e3, rI_o (fun z => absurd z.2 (by decide)), e2, rI_o (fun z => absurd z.2 (by decide)), e1, rI_s]; exact hv
  have i7 : (q_I d4 12 27 a0).toInt = 0 := by rw [b9, e3, rI_s]; exact hx
  have t4 : tN a0 d4 = tN a0 δ := by unfold tN; rw [i4]
  have t6 : tN a0 d6 = tN a0 δ := by rw [m2]; unfold tN; rw [s1, i4]
  have t8 : tN a0 d8 = tN a0 δ + 1 := by rw [e8]; unfold tN; rw [rI_s, hz]; omega
  have hit : i = tN a0 δ := by unfold tN; omega
  have nr : ∀ c, c ∈ [113, 114, 115, 116] → q_R d8 (Ad ad c) = q_R d6 (Ad ad c) := by
    intro c hc
    rw [e8, e7]
    have : Ad ad c ≠ Ad ad 112 := by
      simp only [List.mem_cons, List.not_mem_nil, or_false] at hc
      rcases hc with rfl | rfl | rfl | rfl <;> exact ad_ne L (by decide) (by decide) (by decide)
    exact rR_o this
  have n2 : ∀ t, q_R d8 (Ad ad 112) t = if t = i then y else q_R d6 (Ad ad 112) t := by
    intro t
    rw [e8, e7]
    show q_R (s_R d6 (Ad ad 112) i y) (Ad ad 112) t = _
    rw [qR_sR]
    by_cases c : t = i
    · rw [if_pos ⟨rfl, c⟩, if_pos c]
    · rw [if_neg (fun z => c z.2), if_neg c]
  intro hm T t ht8
  rw [nr 113 (by decide), nr 114 (by decide), nr 115 (by decide), nr 116 (by decide), n2]
  by_cases c : t = i
  · rw [if_pos c]
    obtain ⟨_, st⟩ := s7 (c10 hb)
    rw [t4, ← hit, ← c] at st
    have e0 : sN a0 d4 = 0 := by unfold sN; omega
    have e7 : dN a0 d4 = 0 := by unfold dN; omega
    have eS : y.toInt.toNat = sN a0 d5 := by rw [hy, c7]; rfl
    rw [e0, e7] at st
    rw [c2, c3, c4, c5, eS]
    refine stp_c (fun _ _ _ => rfl) (fun _ _ _ => rfl) (fun _ _ _ => rfl) (fun _ _ => rfl) ?_ st
    rw [← m1]
    have q24 : q_I d6 12 24 a0 = q_I δ 12 24 a0 := by rw [c6, s1, i4]
    unfold cbx
    rw [q24]
    unfold tN at hit
    omega
  · rw [if_neg c]
    exact B hm T t (by omega)
