/-! two runs over the same list laid: the same answers -/
def ok2 {α : Type} (o o1 : Option α) (Q : α → α → Prop) : Prop := ∃ r r1, o = some r ∧ o1 = some r1 ∧ Q r r1
theorem ok2_some {α : Type} {r r1 : α} {Q : α → α → Prop} (h : Q r r1) : ok2 (some r) (some r1) Q := ⟨r, r1, rfl, rfl, h⟩
theorem ok2_bind {α β : Type} {o o1 : Option α} {f f1 : α → Option β} {P : α → α → Prop} {Q : β → β → Prop} (h : ok2 o o1 P) (k : ∀ r r1, P r r1 → ok2 (f r) (f1 r1) Q) : ok2 (o.bind f) (o1.bind f1) Q := by
  obtain ⟨r, r1, rfl, rfl, hr⟩ := h
  exact k r r1 hr
theorem ok2_mono {α : Type} {o o1 : Option α} {P Q : α → α → Prop} (h : ok2 o o1 P) (k : ∀ r r1, P r r1 → Q r r1) : ok2 o o1 Q := by
  obtain ⟨r, r1, e, e1, hr⟩ := h
  exact ⟨r, r1, e, e1, k r r1 hr⟩
theorem ok2_at {α β : Type} {o : Option α} {b : α} {f f1 : α → Option β} {Q : β → β → Prop} (e : o = some b) (k : ok2 (f b) (f1 b) Q) : ok2 (o.bind f) (o.bind f1) Q := by
  subst e
  exact k
theorem ok2_ite {α : Type} {c : Prop} [Decidable c] {a b a1 b1 : Option α} {Q : α → α → Prop} (h1 : c → ok2 a a1 Q) (h2 : ¬ c → ok2 b b1 Q) : ok2 (if c then a else b) (if c then a1 else b1) Q := by
  by_cases h : c
  · rw [if_pos h, if_pos h]; exact h1 h
  · rw [if_neg h, if_neg h]; exact h2 h
theorem ok2_gd {α : Type} {c : Prop} [Decidable c] {b b1 : Option α} {Q : α → α → Prop} (h : ¬ c) (k : ok2 b b1 Q) : ok2 (if c then none else b) (if c then none else b1) Q := by
  rw [if_neg h, if_neg h]; exact k
theorem ok2_gp {α : Type} {c : Prop} [Decidable c] {a a1 : Option α} {Q : α → α → Prop} (h : c) (k : ok2 a a1 Q) : ok2 (if c then a else none) (if c then a1 else none) Q := by
  rw [if_pos h, if_pos h]; exact k
theorem ok2_bdv {ρ : Type} {v v1 : dp} {f f1 : dp → Option ρ} {Q : ρ → ρ → Prop} (k : ∀ δ1, δ1 = v → ∀ δ2, δ2 = v1 → ok2 (f δ1) (f1 δ2) Q) : ok2 (bd v f) (bd v1 f1) Q := k v rfl v1 rfl
theorem ok2_biv {ρ : Type} {v : Int32} {f f1 : Int32 → Option ρ} {Q : ρ → ρ → Prop} (k : ∀ x, x = v → ok2 (f x) (f1 x) Q) : ok2 (bi v f) (bi v f1) Q := k v rfl
/-- the same shape, the same list laid -/
def AG (ad : List Nat) (a0 : Nat) (δ δ1 : dp) : Prop := q_I δ1 12 10 a0 = q_I δ 12 10 a0 ∧ q_I δ1 12 11 a0 = q_I δ 12 11 a0 ∧ q_I δ1 12 12 a0 = q_I δ 12 12 a0 ∧ q_I δ1 12 36 a0 = q_I δ 12 36 a0 ∧ ∀ i : Nat, (i : Int) < (q_I δ 12 36 a0).toInt → q_R δ1 (Ad ad 119) i = q_R δ (Ad ad 119) i
theorem AG.wr {ad : List Nat} {a0 : Nat} {δ δ1 : dp} (A : AG ad a0 δ δ1) {i : Nat} {v : Int32} (h : (q_I δ 12 36 a0).toInt ≤ (i : Int)) : AG ad a0 (s_R δ (Ad ad 119) i v) (s_R δ1 (Ad ad 119) i v) := by
  refine ⟨A.1, A.2.1, A.2.2.1, A.2.2.2.1, fun j hj => ?_⟩
  have hj' : (j : Int) < (q_I δ 12 36 a0).toInt := hj
  rw [qR_sR, qR_sR, if_neg (by omega), if_neg (by omega)]
  exact A.2.2.2.2 j hj'
theorem AG.cut {ad : List Nat} {a0 : Nat} {δ δ1 : dp} (A : AG ad a0 δ δ1) {v : Int32} (h : v.toInt ≤ (q_I δ 12 36 a0).toInt) : AG ad a0 (s_I δ 12 36 a0 v) (s_I δ1 12 36 a0 v) := by
  refine ⟨?_, ?_, ?_, ?_, fun j hj => ?_⟩
  · rw [rI_o (by decide), rI_o (by decide)]; exact A.1
  · rw [rI_o (by decide), rI_o (by decide)]; exact A.2.1
  · rw [rI_o (by decide), rI_o (by decide)]; exact A.2.2.1
  · rw [rI_s, rI_s]
  · rw [rI_s] at hj
    exact A.2.2.2.2 j (by omega)
theorem AG.push {ad : List Nat} {a0 : Nat} {δ δ1 d1 d1p d2 d2p : dp} (A : AG ad a0 δ δ1) {i : Nat} {v w : Int32} (e1 : d1 = s_R δ (Ad ad 119) i v) (e1p : d1p = s_R δ1 (Ad ad 119) i v) (e2 : d2 = s_I d1 12 36 a0 w) (e2p : d2p = s_I d1p 12 36 a0 w) (hi : (i : Int) = (q_I δ 12 36 a0).toInt) (hw : w.toInt = (q_I δ 12 36 a0).toInt + 1) : AG ad a0 d2 d2p := by
  subst e1 e1p e2 e2p
  refine ⟨?_, ?_, ?_, ?_, fun j hj => ?_⟩
  · rw [rI_o (by decide), rI_o (by decide)]; exact A.1
  · rw [rI_o (by decide), rI_o (by decide)]; exact A.2.1
  · rw [rI_o (by decide), rI_o (by decide)]; exact A.2.2.1
  · rw [rI_s, rI_s]
  · rw [rI_s] at hj
    rw [qR_sI, qR_sI, qR_sR, qR_sR]
    by_cases c : j = i
    · rw [if_pos ⟨rfl, c⟩, if_pos ⟨rfl, c⟩]
    · rw [if_neg (fun z => c z.2), if_neg (fun z => c z.2)]
      exact A.2.2.2.2 j (by omega)

set_option maxHeartbeats 4000000 in
theorem v_X12_lowerBits {ad : List Nat} {h : hp} (L : Lay TLx ad h) {δ0 : dp} {N : Nat} (hN : 10000000 ≤ N) {a0 : Nat} {x1 : Int32} (k_a0 : q_K h.1 a0 = 12) {δ δp : dp} (I : RI ad h.1 δ0 δ) (A : AG ad a0 δ δp) : ok2 (D_X12_lowerBits N h.1 a0 x1 δ) (D_X12_lowerBits N h.1 a0 x1 δp) (fun r rp => (r.2 = δ ∧ (2 ≤ (x1).toInt → (x1).toInt % 2 = 0 ∨ (q_I δ 12 12 a0).toInt = 1 → (r.1).toInt = (x1).toInt / 2) ∧ (2 ≤ (x1).toInt → (x1).toInt % 2 = 1 → (q_I δ 12 12 a0).toInt = 0 → (r.1).toInt = (x1).toInt / 2 + 1) ∧ (2 ≤ (x1).toInt ∧ (x1).toInt ≤ 16 → 1 ≤ (r.1).toInt ∧ (r.1).toInt < (x1).toInt ∧ (x1).toInt ≤ 2 * (r.1).toInt + 1 ∧ 2 * (r.1).toInt ≤ (x1).toInt + 1)) ∧ rp.2 = δp ∧ rp.1 = r.1) := by
  unfold D_X12_lowerBits
  try rw [A.1]
  try rw [A.2.1]
  try rw [A.2.2.1]
  try rw [A.2.2.2.1]
  have f1 := ti_b x1
  have f3 := ti_div (c := 2) (n := 2) rfl (by decide) x1
  have f4 := ti_b (x1 / (2 : Int32))
  first | (have q5 := te_mulr (c := 2) (n := 2) rfl (x1 / (2 : Int32)) (by omega) (by omega); obtain ⟨f6, f7, f8⟩ := q5) | (obtain ⟨q5, f6, f7, f8⟩ := ti_mulr (c := 2) (n := 2) rfl (x1 / (2 : Int32)))
  first | (have q10 := te_sub x1 (x1 / (2 : Int32) * (2 : Int32)) (by omega) (by omega); obtain ⟨f11, f12, f13⟩ := q10) | (obtain ⟨q10, f11, f12, f13⟩ := ti_sub x1 (x1 / (2 : Int32) * (2 : Int32)))
  refine ok2_ite (fun h14 => ?_) (fun h14 => ?_)
  · have c15 : (x1 - x1 / (2 : Int32) * (2 : Int32)).toInt = (0 : Int) := o_eq h14
    unfold J_X12_lowerBits_30
    try rw [A.1]
    try rw [A.2.1]
    try rw [A.2.2.1]
    try rw [A.2.2.2.1]
    have f16 := cb_12_12 I k_a0
    exact ok2_some (show (δ = δ ∧ (2 ≤ (x1).toInt → (x1).toInt % 2 = 0 ∨ (q_I δ 12 12 a0).toInt = 1 → ((x1 / (2 : Int32))).toInt = (x1).toInt / 2) ∧ (2 ≤ (x1).toInt → (x1).toInt % 2 = 1 → (q_I δ 12 12 a0).toInt = 0 → ((x1 / (2 : Int32))).toInt = (x1).toInt / 2 + 1) ∧ (2 ≤ (x1).toInt ∧ (x1).toInt ≤ 16 → 1 ≤ ((x1 / (2 : Int32))).toInt ∧ ((x1 / (2 : Int32))).toInt < (x1).toInt ∧ (x1).toInt ≤ 2 * ((x1 / (2 : Int32))).toInt + 1 ∧ 2 * ((x1 / (2 : Int32))).toInt ≤ (x1).toInt + 1)) ∧ δp = δp ∧ (x1 / (2 : Int32)) = (x1 / (2 : Int32)) from ⟨⟨rfl, by first | assumption | omega, by first | assumption | omega, by first | assumption | omega⟩, rfl, rfl⟩)
  · have c17 : (x1 - x1 / (2 : Int32) * (2 : Int32)).toInt ≠ (0 : Int) := o_ne h14
    have f18 := cb_12_12 I k_a0
    refine ok2_ite (fun h19 => ?_) (fun h19 => ?_)
    · have c20 : (q_I δ 12 12 a0).toInt = (0 : Int) := o_eq h19
      unfold J_X12_lowerBits_30
      try rw [A.1]
      try rw [A.2.1]
      try rw [A.2.2.1]
      try rw [A.2.2.2.1]
      first | (have q22 := te_addc (c := 1) (n := 1) rfl (x1 / (2 : Int32)) (by omega) (by omega); obtain ⟨f23, f24, f25⟩ := q22) | (obtain ⟨q22, f23, f24, f25⟩ := ti_addc (c := 1) (n := 1) rfl (x1 / (2 : Int32)))
      exact ok2_some (show (δ = δ ∧ (2 ≤ (x1).toInt → (x1).toInt % 2 = 0 ∨ (q_I δ 12 12 a0).toInt = 1 → (((x1 / (2 : Int32)) + (1 : Int32))).toInt = (x1).toInt / 2) ∧ (2 ≤ (x1).toInt → (x1).toInt % 2 = 1 → (q_I δ 12 12 a0).toInt = 0 → (((x1 / (2 : Int32)) + (1 : Int32))).toInt = (x1).toInt / 2 + 1) ∧ (2 ≤ (x1).toInt ∧ (x1).toInt ≤ 16 → 1 ≤ (((x1 / (2 : Int32)) + (1 : Int32))).toInt ∧ (((x1 / (2 : Int32)) + (1 : Int32))).toInt < (x1).toInt ∧ (x1).toInt ≤ 2 * (((x1 / (2 : Int32)) + (1 : Int32))).toInt + 1 ∧ 2 * (((x1 / (2 : Int32)) + (1 : Int32))).toInt ≤ (x1).toInt + 1)) ∧ δp = δp ∧ ((x1 / (2 : Int32)) + (1 : Int32)) = ((x1 / (2 : Int32)) + (1 : Int32)) from ⟨⟨rfl, by first | assumption | omega, by first | assumption | omega, by first | assumption | omega⟩, rfl, rfl⟩)
    · have c26 : (q_I δ 12 12 a0).toInt ≠ (0 : Int) := o_ne h19
      unfold J_X12_lowerBits_30
      try rw [A.1]
      try rw [A.2.1]
      try rw [A.2.2.1]
      try rw [A.2.2.2.1]
      exact ok2_some (show (δ = δ ∧ (2 ≤ (x1).toInt → (x1).toInt % 2 = 0 ∨ (q_I δ 12 12 a0).toInt = 1 → ((x1 / (2 : Int32))).toInt = (x1).toInt / 2) ∧ (2 ≤ (x1).toInt → (x1).toInt % 2 = 1 → (q_I δ 12 12 a0).toInt = 0 → ((x1 / (2 : Int32))).toInt = (x1).toInt / 2 + 1) ∧ (2 ≤ (x1).toInt ∧ (x1).toInt ≤ 16 → 1 ≤ ((x1 / (2 : Int32))).toInt ∧ ((x1 / (2 : Int32))).toInt < (x1).toInt ∧ (x1).toInt ≤ 2 * ((x1 / (2 : Int32))).toInt + 1 ∧ 2 * ((x1 / (2 : Int32))).toInt ≤ (x1).toInt + 1)) ∧ δp = δp ∧ (x1 / (2 : Int32)) = (x1 / (2 : Int32)) from ⟨⟨rfl, by first | assumption | omega, by first | assumption | omega, by first | assumption | omega⟩, rfl, rfl⟩)
set_option maxHeartbeats 4000000 in
theorem vl_X12_lists_11 {ad : List Nat} {h : hp} (L : Lay TLx ad h) {δ0 : dp} {N : Nat} (hN : 10000000 ≤ N) {a0 : Nat} {x1 : Int32} {x2 : Int32} {x3 : Int32} (k_a0 : q_K h.1 a0 = 12) : ∀ (n : Nat) (x4v : Int32) (x5v : Int32) (δ : dp) (δp : dp), RI ad h.1 δ0 δ → 0 ≤ (x1).toInt → (x1).toInt ≤ (x2).toInt → (x2).toInt ≤ (x1).toInt + 2000 → (x1).toInt + 1 ≤ (x5v).toInt → (x5v).toInt ≤ (x2).toInt + 1 → (x2).toInt ≤ (x4v).toInt → (x4v).toInt ≤ 12000 → (x4v).toInt ≤ (q_I δ 12 36 a0).toInt → (q_I δ 12 36 a0).toInt ≤ (x4v).toInt + (x5v).toInt - (x1).toInt - 1 → AG ad a0 δ δp → (x2).toInt + 1 - (x5v).toInt < (n : Int) → ok2 (L_X12_lists_11 N h.1 a0 x1 x2 x3 n x4v x5v δ) (L_X12_lists_11 N h.1 a0 x1 x2 x3 n x4v x5v δp) (fun r rp => (RI ad h.1 δ0 r.2 ∧ (kp [(12, 36)] δ r.2 ∧ q_V r.2 = q_V δ ∧ kr ad [119] δ r.2) ∧ (r.1).toInt = (x4v).toInt ∧ (q_I δ 12 36 a0).toInt ≤ (q_I r.2 12 36 a0).toInt ∧ (q_I r.2 12 36 a0).toInt ≤ (x4v).toInt + 2000) ∧ AG ad a0 r.2 rp.2 ∧ rp.1 = r.1) := by
  intro n
  induction n with
  | zero =>
    intro x4v x5v δ δp I j0 j1 j2 j3 j4 j5 j6 j7 j8 A hm
    have f1 := ti_b x1
    have f2 := ti_b x2
    have f3 := ti_b x5v
    have f4 := ti_b x4v
    have f5 := cb_12_36 I k_a0
    exfalso; omega
  | succ n ih =>
    intro x4v x5v δ δp I j0 j1 j2 j3 j4 j5 j6 j7 j8 A hm
    unfold L_X12_lists_11
    have f1 := ti_b x1
    have f2 := ti_b x2
    have f3 := ti_b x5v
    have f4 := ti_b x4v
    have f5 := cb_12_36 I k_a0
    try rw [A.1]
    try rw [A.2.1]
    try rw [A.2.2.1]
    try rw [A.2.2.2.1]
    first | (have q7 := te_subc (c := 1) (n := 1) rfl x2 (by omega) (by omega); obtain ⟨f8, f9, f10⟩ := q7) | (obtain ⟨q7, f8, f9, f10⟩ := ti_subc (c := 1) (n := 1) rfl x2)
    refine ok2_ite (fun h11 => ?_) (fun h11 => ?_)
    · have c12 : (x2 - (1 : Int32)).toInt ≤ x5v.toInt := o_le h11
      exact ok2_some (show (RI ad h.1 δ0 δ ∧ (kp [(12, 36)] δ δ ∧ q_V δ = q_V δ ∧ kr ad [119] δ δ) ∧ (x4v).toInt = (x4v).toInt ∧ (q_I δ 12 36 a0).toInt ≤ (q_I δ 12 36 a0).toInt ∧ (q_I δ 12 36 a0).toInt ≤ (x4v).toInt + 2000) ∧ AG ad a0 δ δp ∧ x4v = x4v from ⟨⟨I, ⟨kp_w (by decide) kp_r, rfl, kr_w (by decide) (kr_r (ad := ad))⟩, by first | assumption | omega, by first | assumption | omega, by first | assumption | omega⟩, A, rfl⟩)
    · have c13 : x5v.toInt < (x2 - (1 : Int32)).toInt := o_nle h11
      obtain ⟨b14, o15, k16, n17, w18⟩ := gO_12_35 L k_a0
      obtain rfl := gS_12_35 L k_a0 o15
      refine ok2_at o15 ?_
      have t19 := ti_tn x5v
      refine ok2_gd (fun hc20 => ?_) ?_
      · rcases hc20 with hc20 | hc20
        · have c21 : x5v.toInt < (0 : Int) := o_lt hc20
          omega
        · omega
      have hq24 : q_R δp (Ad ad 119) x5v.toNatClampNeg = q_R δ (Ad ad 119) x5v.toNatClampNeg := A.2.2.2.2 _ (by omega)
      try rw [hq24]
      have f25 := ti_b ((q_R δ (Ad ad 119) x5v.toNatClampNeg) >>> (x3 &&& 31))
      refine ok2_biv (fun vx22 e23 => ?_)
      have f26 : vx22.toInt = ((q_R δ (Ad ad 119) x5v.toNatClampNeg) >>> (x3 &&& 31)).toInt := congrArg Int32.toInt e23
      refine ok2_ite (fun h27 => ?_) (fun h27 => ?_)
      · have c28 : (q_I δ 12 36 a0).toInt ≤ x4v.toInt := o_le h27
        unfold J_X12_lists_58
        try rw [A.1]
        try rw [A.2.1]
        try rw [A.2.2.1]
        try rw [A.2.2.2.1]
        refine ok2_at o15 ?_
        have t29 := ti_tn (q_I δ 12 36 a0)
        refine ok2_gd (fun hc30 => ?_) ?_
        · rcases hc30 with hc30 | hc30
          · have c31 : (q_I δ 12 36 a0).toInt < (0 : Int) := o_lt hc30
            omega
          · omega
        refine ok2_bdv (fun d32 e33 d32p e33p => ?_)
        have i34 : RI ad h.1 δ0 d32 := by rw [e33]; exact RI.sR L I w18
        have u35 := kp_N kp_r (show q_I d32 = q_I δ by rw [e33]; rfl)
        have v36 : q_V d32 = q_V δ := ((show q_V d32 = q_V δ by rw [e33]; rfl)).trans rfl
        have v37 := kr_s L (by decide) (kr_r (ad := ad)) e33
        have ag38 : AG ad a0 d32 d32p := by rw [e33, e33p]; exact A.wr (by omega)
        try rw [ag38.1]
        try rw [ag38.2.1]
        try rw [ag38.2.2.1]
        try rw [ag38.2.2.2.1]
        have f42 := cb_12_36 i34 k_a0
        have f43 : (q_I d32 12 36 a0).toInt = (q_I δ 12 36 a0).toInt := congrArg Int32.toInt (by rw [e33]; rfl)
        first | (have q45 := te_addc (c := 1) (n := 1) rfl (q_I d32 12 36 a0) (by omega) (by omega); obtain ⟨f46, f47, f48⟩ := q45) | (obtain ⟨q45, f46, f47, f48⟩ := ti_addc (c := 1) (n := 1) rfl (q_I d32 12 36 a0))
        refine ok2_bdv (fun d39 e40 d39p e40p => ?_)
        have i41 : RI ad h.1 δ0 d39 := by rw [e40]; exact cs_12_36 L i34 k_a0 (show 0 ≤ ((q_I d32 12 36 a0) + (1 : Int32)).toInt by omega) (show ((q_I d32 12 36 a0) + (1 : Int32)).toInt ≤ 14000 by omega)
        have u49 := kp_I u35 e40
        have v50 : q_V d39 = q_V δ := ((show q_V d39 = q_V d32 by rw [e40]; rfl)).trans v36
        have v51 := kr_N v37 (show q_R d39 = q_R d32 by rw [e40]; rfl)
        have ag52 : AG ad a0 d39 d39p := A.push e33 e33p e40 e40p (by omega) (show ((q_I d32 12 36 a0) + (1 : Int32)).toInt = _ by omega)
        try rw [ag52.1]
        try rw [ag52.2.1]
        try rw [ag52.2.2.1]
        try rw [ag52.2.2.2.1]
        unfold J_X12_lists_79
        try rw [ag52.1]
        try rw [ag52.2.1]
        try rw [ag52.2.2.1]
        try rw [ag52.2.2.2.1]
        refine ok2_biv (fun vx53 e54 => ?_)
        first | (have q55 := te_addc (c := 1) (n := 1) rfl x5v (by omega) (by omega); rw [← e54] at q55; obtain ⟨f56, f57, f58⟩ := q55) | (obtain ⟨q55, f56, f57, f58⟩ : ∃ q : Int, vx53.toInt = x5v.toInt + (1 : Int) + 4294967296 * q ∧ -2147483648 ≤ vx53.toInt ∧ vx53.toInt ≤ 2147483647 := by rw [e54]; exact ti_addc (c := 1) (n := 1) rfl x5v)
        have f59 := cb_12_36 i41 k_a0
        have f60 : (q_I d39 12 36 a0).toInt = ((q_I d32 12 36 a0) + (1 : Int32)).toInt := congrArg Int32.toInt (show q_I d39 12 36 a0 = ((q_I d32 12 36 a0) + (1 : Int32)) by rw [e40]; exact rI_s)
        refine ok2_mono (ih x4v vx53 d39 d39p i41 (show 0 ≤ (x1).toInt by first | assumption | omega) (show (x1).toInt ≤ (x2).toInt by first | assumption | omega) (show (x2).toInt ≤ (x1).toInt + 2000 by first | assumption | omega) (show (x1).toInt + 1 ≤ (vx53).toInt by first | assumption | omega) (show (vx53).toInt ≤ (x2).toInt + 1 by first | assumption | omega) (show (x2).toInt ≤ (x4v).toInt by first | assumption | omega) (show (x4v).toInt ≤ 12000 by first | assumption | omega) (show (x4v).toInt ≤ (q_I d39 12 36 a0).toInt by first | assumption | omega) (show (q_I d39 12 36 a0).toInt ≤ (x4v).toInt + (vx53).toInt - (x1).toInt - 1 by first | assumption | omega) ag52 (show (x2).toInt + 1 - (vx53).toInt < _ by omega)) (fun r61 r61p hr62 => ?_)
        obtain ⟨hq67, ha68, hb69⟩ := hr62
        obtain ⟨i63, ⟨u70, u71, u72⟩, p64, p65, p66⟩ := hq67
        have u73 := kp_t u49 u70
        have v74 : q_V r61.2 = q_V δ := (u71).trans v50
        have v75 := kr_t v51 u72
        have f76 := ti_b r61.1
        have f77 := cb_12_36 i63 k_a0
        have f78 := ti_b r61.1
        exact ⟨⟨by assumption, ⟨kp_w (by decide) u73, v74, kr_w (by decide) v75⟩, by first | assumption | omega, by first | assumption | omega, by first | assumption | omega⟩, ha68, hb69⟩
      · have c79 : x4v.toInt < (q_I δ 12 36 a0).toInt := o_nle h27
        refine ok2_at o15 ?_
        first | (have q81 := te_subc (c := 1) (n := 1) rfl (q_I δ 12 36 a0) (by omega) (by omega); obtain ⟨f82, f83, f84⟩ := q81) | (obtain ⟨q81, f82, f83, f84⟩ := ti_subc (c := 1) (n := 1) rfl (q_I δ 12 36 a0))
        have t85 := ti_tn ((q_I δ 12 36 a0) - (1 : Int32))
        refine ok2_gd (fun hc86 => ?_) ?_
        · rcases hc86 with hc86 | hc86
          · have c87 : ((q_I δ 12 36 a0) - (1 : Int32)).toInt < (0 : Int) := o_lt hc86
            omega
          · omega
        have hq88 : q_R δp (Ad ad 119) ((q_I δ 12 36 a0) - (1 : Int32)).toNatClampNeg = q_R δ (Ad ad 119) ((q_I δ 12 36 a0) - (1 : Int32)).toNatClampNeg := A.2.2.2.2 _ (by omega)
        try rw [hq88]
        have f89 := ti_b (q_R δ (Ad ad 119) ((q_I δ 12 36 a0) - (1 : Int32)).toNatClampNeg)
        refine ok2_ite (fun h90 => ?_) (fun h90 => ?_)
        · have c91 : (q_R δ (Ad ad 119) ((q_I δ 12 36 a0) - (1 : Int32)).toNatClampNeg).toInt = vx22.toInt := o_eq h90
          unfold J_X12_lists_79
          try rw [A.1]
          try rw [A.2.1]
          try rw [A.2.2.1]
          try rw [A.2.2.2.1]
          refine ok2_biv (fun vx92 e93 => ?_)
          first | (have q94 := te_addc (c := 1) (n := 1) rfl x5v (by omega) (by omega); rw [← e93] at q94; obtain ⟨f95, f96, f97⟩ := q94) | (obtain ⟨q94, f95, f96, f97⟩ : ∃ q : Int, vx92.toInt = x5v.toInt + (1 : Int) + 4294967296 * q ∧ -2147483648 ≤ vx92.toInt ∧ vx92.toInt ≤ 2147483647 := by rw [e93]; exact ti_addc (c := 1) (n := 1) rfl x5v)
          refine ok2_mono (ih x4v vx92 δ δp I (show 0 ≤ (x1).toInt by first | assumption | omega) (show (x1).toInt ≤ (x2).toInt by first | assumption | omega) (show (x2).toInt ≤ (x1).toInt + 2000 by first | assumption | omega) (show (x1).toInt + 1 ≤ (vx92).toInt by first | assumption | omega) (show (vx92).toInt ≤ (x2).toInt + 1 by first | assumption | omega) (show (x2).toInt ≤ (x4v).toInt by first | assumption | omega) (show (x4v).toInt ≤ 12000 by first | assumption | omega) (show (x4v).toInt ≤ (q_I δ 12 36 a0).toInt by first | assumption | omega) (show (q_I δ 12 36 a0).toInt ≤ (x4v).toInt + (vx92).toInt - (x1).toInt - 1 by first | assumption | omega) A (show (x2).toInt + 1 - (vx92).toInt < _ by omega)) (fun r98 r98p hr99 => ?_)
          obtain ⟨hq104, ha105, hb106⟩ := hr99
          obtain ⟨i100, ⟨u107, u108, u109⟩, p101, p102, p103⟩ := hq104
          have u110 := kp_t kp_r u107
          have v111 : q_V r98.2 = q_V δ := (u108).trans rfl
          have v112 := kr_t (kr_r (ad := ad)) u109
          have f113 := ti_b r98.1
          have f114 := cb_12_36 i100 k_a0
          have f115 := ti_b r98.1
          exact ⟨⟨by assumption, ⟨kp_w (by decide) u110, v111, kr_w (by decide) v112⟩, by first | assumption | omega, by first | assumption | omega, by first | assumption | omega⟩, ha105, hb106⟩
        · have c116 : (q_R δ (Ad ad 119) ((q_I δ 12 36 a0) - (1 : Int32)).toNatClampNeg).toInt ≠ vx22.toInt := o_ne h90
          unfold J_X12_lists_58
          try rw [A.1]
          try rw [A.2.1]
          try rw [A.2.2.1]
          try rw [A.2.2.2.1]
          refine ok2_at o15 ?_
          have t117 := ti_tn (q_I δ 12 36 a0)
          refine ok2_gd (fun hc118 => ?_) ?_
          · rcases hc118 with hc118 | hc118
            · have c119 : (q_I δ 12 36 a0).toInt < (0 : Int) := o_lt hc118
              omega
            · omega
          refine ok2_bdv (fun d120 e121 d120p e121p => ?_)
          have i122 : RI ad h.1 δ0 d120 := by rw [e121]; exact RI.sR L I w18
          have u123 := kp_N kp_r (show q_I d120 = q_I δ by rw [e121]; rfl)
          have v124 : q_V d120 = q_V δ := ((show q_V d120 = q_V δ by rw [e121]; rfl)).trans rfl
          have v125 := kr_s L (by decide) (kr_r (ad := ad)) e121
          have ag126 : AG ad a0 d120 d120p := by rw [e121, e121p]; exact A.wr (by omega)
          try rw [ag126.1]
          try rw [ag126.2.1]
          try rw [ag126.2.2.1]
          try rw [ag126.2.2.2.1]
          have f130 := cb_12_36 i122 k_a0
          have f131 : (q_I d120 12 36 a0).toInt = (q_I δ 12 36 a0).toInt := congrArg Int32.toInt (by rw [e121]; rfl)
          first | (have q133 := te_addc (c := 1) (n := 1) rfl (q_I d120 12 36 a0) (by omega) (by omega); obtain ⟨f134, f135, f136⟩ := q133) | (obtain ⟨q133, f134, f135, f136⟩ := ti_addc (c := 1) (n := 1) rfl (q_I d120 12 36 a0))
          refine ok2_bdv (fun d127 e128 d127p e128p => ?_)
          have i129 : RI ad h.1 δ0 d127 := by rw [e128]; exact cs_12_36 L i122 k_a0 (show 0 ≤ ((q_I d120 12 36 a0) + (1 : Int32)).toInt by omega) (show ((q_I d120 12 36 a0) + (1 : Int32)).toInt ≤ 14000 by omega)
          have u137 := kp_I u123 e128
          have v138 : q_V d127 = q_V δ := ((show q_V d127 = q_V d120 by rw [e128]; rfl)).trans v124
          have v139 := kr_N v125 (show q_R d127 = q_R d120 by rw [e128]; rfl)
          have ag140 : AG ad a0 d127 d127p := A.push e121 e121p e128 e128p (by omega) (show ((q_I d120 12 36 a0) + (1 : Int32)).toInt = _ by omega)
          try rw [ag140.1]
          try rw [ag140.2.1]
          try rw [ag140.2.2.1]
          try rw [ag140.2.2.2.1]
          unfold J_X12_lists_79
          try rw [ag140.1]
          try rw [ag140.2.1]
          try rw [ag140.2.2.1]
          try rw [ag140.2.2.2.1]
          refine ok2_biv (fun vx141 e142 => ?_)
          first | (have q143 := te_addc (c := 1) (n := 1) rfl x5v (by omega) (by omega); rw [← e142] at q143; obtain ⟨f144, f145, f146⟩ := q143) | (obtain ⟨q143, f144, f145, f146⟩ : ∃ q : Int, vx141.toInt = x5v.toInt + (1 : Int) + 4294967296 * q ∧ -2147483648 ≤ vx141.toInt ∧ vx141.toInt ≤ 2147483647 := by rw [e142]; exact ti_addc (c := 1) (n := 1) rfl x5v)
          have f147 := cb_12_36 i129 k_a0
          have f148 : (q_I d127 12 36 a0).toInt = ((q_I d120 12 36 a0) + (1 : Int32)).toInt := congrArg Int32.toInt (show q_I d127 12 36 a0 = ((q_I d120 12 36 a0) + (1 : Int32)) by rw [e128]; exact rI_s)
          refine ok2_mono (ih x4v vx141 d127 d127p i129 (show 0 ≤ (x1).toInt by first | assumption | omega) (show (x1).toInt ≤ (x2).toInt by first | assumption | omega) (show (x2).toInt ≤ (x1).toInt + 2000 by first | assumption | omega) (show (x1).toInt + 1 ≤ (vx141).toInt by first | assumption | omega) (show (vx141).toInt ≤ (x2).toInt + 1 by first | assumption | omega) (show (x2).toInt ≤ (x4v).toInt by first | assumption | omega) (show (x4v).toInt ≤ 12000 by first | assumption | omega) (show (x4v).toInt ≤ (q_I d127 12 36 a0).toInt by first | assumption | omega) (show (q_I d127 12 36 a0).toInt ≤ (x4v).toInt + (vx141).toInt - (x1).toInt - 1 by first | assumption | omega) ag140 (show (x2).toInt + 1 - (vx141).toInt < _ by omega)) (fun r149 r149p hr150 => ?_)
          obtain ⟨hq155, ha156, hb157⟩ := hr150
          obtain ⟨i151, ⟨u158, u159, u160⟩, p152, p153, p154⟩ := hq155
          have u161 := kp_t u137 u158
          have v162 : q_V r149.2 = q_V δ := (u159).trans v138
          have v163 := kr_t v139 u160
          have f164 := ti_b r149.1
          have f165 := cb_12_36 i151 k_a0
          have f166 := ti_b r149.1
          exact ⟨⟨by assumption, ⟨kp_w (by decide) u161, v162, kr_w (by decide) v163⟩, by first | assumption | omega, by first | assumption | omega, by first | assumption | omega⟩, ha156, hb157⟩
set_option maxHeartbeats 4000000 in
theorem v_X12_lists {ad : List Nat} {h : hp} (L : Lay TLx ad h) {δ0 : dp} {N : Nat} (hN : 10000000 ≤ N) {a0 : Nat} {x1 : Int32} {x2 : Int32} {x3 : Int32} (k_a0 : q_K h.1 a0 = 12) {δ δp : dp} (z0 : 0 ≤ (x1).toInt) (z1 : (x1).toInt ≤ (x2).toInt) (z2 : (x2).toInt ≤ (x1).toInt + 2000) (z3 : (x2).toInt ≤ (q_I δ 12 36 a0).toInt) (z4 : (q_I δ 12 36 a0).toInt ≤ 12000) (I : RI ad h.1 δ0 δ) (A : AG ad a0 δ δp) : ok2 (D_X12_lists N h.1 a0 x1 x2 x3 δ) (D_X12_lists N h.1 a0 x1 x2 x3 δp) (fun r rp => (RI ad h.1 δ0 r.2 ∧ (kp [(12, 36)] δ r.2 ∧ q_V r.2 = q_V δ ∧ kr ad [119] δ r.2) ∧ (r.1).toInt = (q_I δ 12 36 a0).toInt ∧ (q_I δ 12 36 a0).toInt ≤ (q_I r.2 12 36 a0).toInt ∧ (q_I r.2 12 36 a0).toInt ≤ (q_I δ 12 36 a0).toInt + 2000) ∧ AG ad a0 r.2 rp.2 ∧ rp.1 = r.1) := by
  unfold D_X12_lists
  have f1 := ti_b x1
  have f2 := ti_b x2
  have f3 := cb_12_36 I k_a0
  try rw [A.1]
  try rw [A.2.1]
  try rw [A.2.2.1]
  try rw [A.2.2.2.1]
  refine ok2_biv (fun vx4 e5 => ?_)
  have f6 : vx4.toInt = (q_I δ 12 36 a0).toInt := congrArg Int32.toInt e5
  refine ok2_biv (fun vx7 e8 => ?_)
  first | (have q9 := te_addc (c := 1) (n := 1) rfl x1 (by omega) (by omega); rw [← e8] at q9; obtain ⟨f10, f11, f12⟩ := q9) | (obtain ⟨q9, f10, f11, f12⟩ : ∃ q : Int, vx7.toInt = x1.toInt + (1 : Int) + 4294967296 * q ∧ -2147483648 ≤ vx7.toInt ∧ vx7.toInt ≤ 2147483647 := by rw [e8]; exact ti_addc (c := 1) (n := 1) rfl x1)
  refine ok2_mono (vl_X12_lists_11 L hN   k_a0 _ vx4 vx7 δ δp I (show 0 ≤ (x1).toInt by first | assumption | omega) (show (x1).toInt ≤ (x2).toInt by first | assumption | omega) (show (x2).toInt ≤ (x1).toInt + 2000 by first | assumption | omega) (show (x1).toInt + 1 ≤ (vx7).toInt by first | assumption | omega) (show (vx7).toInt ≤ (x2).toInt + 1 by first | assumption | omega) (show (x2).toInt ≤ (vx4).toInt by first | assumption | omega) (show (vx4).toInt ≤ 12000 by first | assumption | omega) (show (vx4).toInt ≤ (q_I δ 12 36 a0).toInt by first | assumption | omega) (show (q_I δ 12 36 a0).toInt ≤ (vx4).toInt + (vx7).toInt - (x1).toInt - 1 by first | assumption | omega) A (show (x2).toInt + 1 - (vx7).toInt < _ by omega)) (fun r13 r13p hr14 => ?_)
  obtain ⟨hq19, ha20, hb21⟩ := hr14
  obtain ⟨i15, ⟨u22, u23, u24⟩, p16, p17, p18⟩ := hq19
  have u25 := kp_t kp_r u22
  have v26 : q_V r13.2 = q_V δ := (u23).trans rfl
  have v27 := kr_t (kr_r (ad := ad)) u24
  have f28 := ti_b r13.1
  have f29 := cb_12_36 i15 k_a0
  have f30 := ti_b r13.1
  exact ⟨⟨by assumption, ⟨kp_w (by decide) u25, v26, kr_w (by decide) v27⟩, by first | assumption | omega, by first | assumption | omega, by first | assumption | omega⟩, ha20, hb21⟩
set_option maxHeartbeats 4000000 in
theorem vl_X12_rooms_11 {ad : List Nat} {h : hp} (L : Lay TLx ad h) {δ0 : dp} {N : Nat} (hN : 10000000 ≤ N) {a0 : Nat} {x1 : Int32} {x2 : Int32} {x3 : Int32} {x4 : Int32} (k_a0 : q_K h.1 a0 = 12) : ∀ (n : Nat) (x5v : Int32) (x6v : Int32) (δ : dp) (δp : dp), RI ad h.1 δ0 δ → 0 ≤ (x1).toInt → (x1).toInt ≤ (x2).toInt → (x2).toInt ≤ (x1).toInt + 2000 → (x1).toInt + 1 ≤ (x6v).toInt → (x6v).toInt ≤ (x2).toInt + 1 → (x2).toInt ≤ (x5v).toInt → (x5v).toInt ≤ 12000 → (x5v).toInt ≤ (q_I δ 12 36 a0).toInt → (q_I δ 12 36 a0).toInt ≤ (x5v).toInt + (x6v).toInt - (x1).toInt - 1 → AG ad a0 δ δp → (x2).toInt + 1 - (x6v).toInt < (n : Int) → ok2 (L_X12_rooms_11 N h.1 a0 x1 x2 x3 x4 n x5v x6v δ) (L_X12_rooms_11 N h.1 a0 x1 x2 x3 x4 n x5v x6v δp) (fun r rp => (RI ad h.1 δ0 r.2 ∧ (kp [(12, 36)] δ r.2 ∧ q_V r.2 = q_V δ ∧ kr ad [119] δ r.2) ∧ (r.1).toInt = (x5v).toInt ∧ (q_I δ 12 36 a0).toInt ≤ (q_I r.2 12 36 a0).toInt ∧ (q_I r.2 12 36 a0).toInt ≤ (x5v).toInt + 2000) ∧ AG ad a0 r.2 rp.2 ∧ rp.1 = r.1) := by
  intro n
  induction n with
  | zero =>
    intro x5v x6v δ δp I j0 j1 j2 j3 j4 j5 j6 j7 j8 A hm
    have f1 := ti_b x1
    have f2 := ti_b x2
    have f3 := ti_b x6v
    have f4 := ti_b x5v
    have f5 := cb_12_36 I k_a0
    exfalso; omega
  | succ n ih =>
    intro x5v x6v δ δp I j0 j1 j2 j3 j4 j5 j6 j7 j8 A hm
    unfold L_X12_rooms_11
    have f1 := ti_b x1
    have f2 := ti_b x2
    have f3 := ti_b x6v
    have f4 := ti_b x5v
    have f5 := cb_12_36 I k_a0
    try rw [A.1]
    try rw [A.2.1]
    try rw [A.2.2.1]
    try rw [A.2.2.2.1]
    first | (have q7 := te_subc (c := 1) (n := 1) rfl x2 (by omega) (by omega); obtain ⟨f8, f9, f10⟩ := q7) | (obtain ⟨q7, f8, f9, f10⟩ := ti_subc (c := 1) (n := 1) rfl x2)
    refine ok2_ite (fun h11 => ?_) (fun h11 => ?_)
    · have c12 : (x2 - (1 : Int32)).toInt ≤ x6v.toInt := o_le h11
      exact ok2_some (show (RI ad h.1 δ0 δ ∧ (kp [(12, 36)] δ δ ∧ q_V δ = q_V δ ∧ kr ad [119] δ δ) ∧ (x5v).toInt = (x5v).toInt ∧ (q_I δ 12 36 a0).toInt ≤ (q_I δ 12 36 a0).toInt ∧ (q_I δ 12 36 a0).toInt ≤ (x5v).toInt + 2000) ∧ AG ad a0 δ δp ∧ x5v = x5v from ⟨⟨I, ⟨kp_w (by decide) kp_r, rfl, kr_w (by decide) (kr_r (ad := ad))⟩, by first | assumption | omega, by first | assumption | omega, by first | assumption | omega⟩, A, rfl⟩)
    · have c13 : x6v.toInt < (x2 - (1 : Int32)).toInt := o_nle h11
      obtain ⟨b14, o15, k16, n17, w18⟩ := gO_12_35 L k_a0
      obtain rfl := gS_12_35 L k_a0 o15
      refine ok2_at o15 ?_
      have t19 := ti_tn x6v
      refine ok2_gd (fun hc20 => ?_) ?_
      · rcases hc20 with hc20 | hc20
        · have c21 : x6v.toInt < (0 : Int) := o_lt hc20
          omega
        · omega
      have hq22 : q_R δp (Ad ad 119) x6v.toNatClampNeg = q_R δ (Ad ad 119) x6v.toNatClampNeg := A.2.2.2.2 _ (by omega)
      try rw [hq22]
      have f23 := ti_b ((q_R δ (Ad ad 119) x6v.toNatClampNeg) >>> (x3 &&& 31))
      have f24 := ti_b x4
      refine ok2_ite (fun h25 => ?_) (fun h25 => ?_)
      · have c26 : ((q_R δ (Ad ad 119) x6v.toNatClampNeg) >>> (x3 &&& 31)).toInt = x4.toInt := o_eq h25
        refine ok2_at o15 ?_
        refine ok2_at o15 ?_
        refine ok2_gd (fun hc27 => ?_) ?_
        · rcases hc27 with hc27 | hc27
          · have c28 : x6v.toInt < (0 : Int) := o_lt hc27
            omega
          · omega
        have t29 := ti_tn (q_I δ 12 36 a0)
        refine ok2_gd (fun hc30 => ?_) ?_
        · rcases hc30 with hc30 | hc30
          · have c31 : (q_I δ 12 36 a0).toInt < (0 : Int) := o_lt hc30
            omega
          · omega
        try rw [hq22]
        refine ok2_bdv (fun d32 e33 d32p e33p => ?_)
        have i34 : RI ad h.1 δ0 d32 := by rw [e33]; exact RI.sR L I w18
        have u35 := kp_N kp_r (show q_I d32 = q_I δ by rw [e33]; rfl)
        have v36 : q_V d32 = q_V δ := ((show q_V d32 = q_V δ by rw [e33]; rfl)).trans rfl
        have v37 := kr_s L (by decide) (kr_r (ad := ad)) e33
        have ag38 : AG ad a0 d32 d32p := by rw [e33, e33p]; exact A.wr (by omega)
        try rw [ag38.1]
        try rw [ag38.2.1]
        try rw [ag38.2.2.1]
        try rw [ag38.2.2.2.1]
        have f42 := cb_12_36 i34 k_a0
        have f43 : (q_I d32 12 36 a0).toInt = (q_I δ 12 36 a0).toInt := congrArg Int32.toInt (by rw [e33]; rfl)
        first | (have q45 := te_addc (c := 1) (n := 1) rfl (q_I d32 12 36 a0) (by omega) (by omega); obtain ⟨f46, f47, f48⟩ := q45) | (obtain ⟨q45, f46, f47, f48⟩ := ti_addc (c := 1) (n := 1) rfl (q_I d32 12 36 a0))
        refine ok2_bdv (fun d39 e40 d39p e40p => ?_)
        have i41 : RI ad h.1 δ0 d39 := by rw [e40]; exact cs_12_36 L i34 k_a0 (show 0 ≤ ((q_I d32 12 36 a0) + (1 : Int32)).toInt by omega) (show ((q_I d32 12 36 a0) + (1 : Int32)).toInt ≤ 14000 by omega)
        have u49 := kp_I u35 e40
        have v50 : q_V d39 = q_V δ := ((show q_V d39 = q_V d32 by rw [e40]; rfl)).trans v36
        have v51 := kr_N v37 (show q_R d39 = q_R d32 by rw [e40]; rfl)
        have ag52 : AG ad a0 d39 d39p := A.push e33 e33p e40 e40p (by omega) (show ((q_I d32 12 36 a0) + (1 : Int32)).toInt = _ by omega)
        try rw [ag52.1]
        try rw [ag52.2.1]
        try rw [ag52.2.2.1]
        try rw [ag52.2.2.2.1]
        unfold J_X12_rooms_68
        try rw [ag52.1]
        try rw [ag52.2.1]
        try rw [ag52.2.2.1]
        try rw [ag52.2.2.2.1]
        refine ok2_biv (fun vx53 e54 => ?_)
        first | (have q55 := te_addc (c := 1) (n := 1) rfl x6v (by omega) (by omega); rw [← e54] at q55; obtain ⟨f56, f57, f58⟩ := q55) | (obtain ⟨q55, f56, f57, f58⟩ : ∃ q : Int, vx53.toInt = x6v.toInt + (1 : Int) + 4294967296 * q ∧ -2147483648 ≤ vx53.toInt ∧ vx53.toInt ≤ 2147483647 := by rw [e54]; exact ti_addc (c := 1) (n := 1) rfl x6v)
        have f59 := cb_12_36 i41 k_a0
        have f60 : (q_I d39 12 36 a0).toInt = ((q_I d32 12 36 a0) + (1 : Int32)).toInt := congrArg Int32.toInt (show q_I d39 12 36 a0 = ((q_I d32 12 36 a0) + (1 : Int32)) by rw [e40]; exact rI_s)
        refine ok2_mono (ih x5v vx53 d39 d39p i41 (show 0 ≤ (x1).toInt by first | assumption | omega) (show (x1).toInt ≤ (x2).toInt by first | assumption | omega) (show (x2).toInt ≤ (x1).toInt + 2000 by first | assumption | omega) (show (x1).toInt + 1 ≤ (vx53).toInt by first | assumption | omega) (show (vx53).toInt ≤ (x2).toInt + 1 by first | assumption | omega) (show (x2).toInt ≤ (x5v).toInt by first | assumption | omega) (show (x5v).toInt ≤ 12000 by first | assumption | omega) (show (x5v).toInt ≤ (q_I d39 12 36 a0).toInt by first | assumption | omega) (show (q_I d39 12 36 a0).toInt ≤ (x5v).toInt + (vx53).toInt - (x1).toInt - 1 by first | assumption | omega) ag52 (show (x2).toInt + 1 - (vx53).toInt < _ by omega)) (fun r61 r61p hr62 => ?_)
        obtain ⟨hq67, ha68, hb69⟩ := hr62
        obtain ⟨i63, ⟨u70, u71, u72⟩, p64, p65, p66⟩ := hq67
        have u73 := kp_t u49 u70
        have v74 : q_V r61.2 = q_V δ := (u71).trans v50
        have v75 := kr_t v51 u72
        have f76 := ti_b r61.1
        have f77 := cb_12_36 i63 k_a0
        have f78 := ti_b r61.1
        exact ⟨⟨by assumption, ⟨kp_w (by decide) u73, v74, kr_w (by decide) v75⟩, by first | assumption | omega, by first | assumption | omega, by first | assumption | omega⟩, ha68, hb69⟩
      · have c79 : ((q_R δ (Ad ad 119) x6v.toNatClampNeg) >>> (x3 &&& 31)).toInt ≠ x4.toInt := o_ne h25
        unfold J_X12_rooms_68
        try rw [A.1]
        try rw [A.2.1]
        try rw [A.2.2.1]
        try rw [A.2.2.2.1]
        refine ok2_biv (fun vx80 e81 => ?_)
        first | (have q82 := te_addc (c := 1) (n := 1) rfl x6v (by omega) (by omega); rw [← e81] at q82; obtain ⟨f83, f84, f85⟩ := q82) | (obtain ⟨q82, f83, f84, f85⟩ : ∃ q : Int, vx80.toInt = x6v.toInt + (1 : Int) + 4294967296 * q ∧ -2147483648 ≤ vx80.toInt ∧ vx80.toInt ≤ 2147483647 := by rw [e81]; exact ti_addc (c := 1) (n := 1) rfl x6v)
        refine ok2_mono (ih x5v vx80 δ δp I (show 0 ≤ (x1).toInt by first | assumption | omega) (show (x1).toInt ≤ (x2).toInt by first | assumption | omega) (show (x2).toInt ≤ (x1).toInt + 2000 by first | assumption | omega) (show (x1).toInt + 1 ≤ (vx80).toInt by first | assumption | omega) (show (vx80).toInt ≤ (x2).toInt + 1 by first | assumption | omega) (show (x2).toInt ≤ (x5v).toInt by first | assumption | omega) (show (x5v).toInt ≤ 12000 by first | assumption | omega) (show (x5v).toInt ≤ (q_I δ 12 36 a0).toInt by first | assumption | omega) (show (q_I δ 12 36 a0).toInt ≤ (x5v).toInt + (vx80).toInt - (x1).toInt - 1 by first | assumption | omega) A (show (x2).toInt + 1 - (vx80).toInt < _ by omega)) (fun r86 r86p hr87 => ?_)
        obtain ⟨hq92, ha93, hb94⟩ := hr87
        obtain ⟨i88, ⟨u95, u96, u97⟩, p89, p90, p91⟩ := hq92
        have u98 := kp_t kp_r u95
        have v99 : q_V r86.2 = q_V δ := (u96).trans rfl
        have v100 := kr_t (kr_r (ad := ad)) u97
        have f101 := ti_b r86.1
        have f102 := cb_12_36 i88 k_a0
        have f103 := ti_b r86.1
        exact ⟨⟨by assumption, ⟨kp_w (by decide) u98, v99, kr_w (by decide) v100⟩, by first | assumption | omega, by first | assumption | omega, by first | assumption | omega⟩, ha93, hb94⟩
set_option maxHeartbeats 4000000 in
theorem v_X12_rooms {ad : List Nat} {h : hp} (L : Lay TLx ad h) {δ0 : dp} {N : Nat} (hN : 10000000 ≤ N) {a0 : Nat} {x1 : Int32} {x2 : Int32} {x3 : Int32} {x4 : Int32} (k_a0 : q_K h.1 a0 = 12) {δ δp : dp} (z0 : 0 ≤ (x1).toInt) (z1 : (x1).toInt ≤ (x2).toInt) (z2 : (x2).toInt ≤ (x1).toInt + 2000) (z3 : (x2).toInt ≤ (q_I δ 12 36 a0).toInt) (z4 : (q_I δ 12 36 a0).toInt ≤ 12000) (I : RI ad h.1 δ0 δ) (A : AG ad a0 δ δp) : ok2 (D_X12_rooms N h.1 a0 x1 x2 x3 x4 δ) (D_X12_rooms N h.1 a0 x1 x2 x3 x4 δp) (fun r rp => (RI ad h.1 δ0 r.2 ∧ (kp [(12, 36)] δ r.2 ∧ q_V r.2 = q_V δ ∧ kr ad [119] δ r.2) ∧ (r.1).toInt = (q_I δ 12 36 a0).toInt ∧ (q_I δ 12 36 a0).toInt ≤ (q_I r.2 12 36 a0).toInt ∧ (q_I r.2 12 36 a0).toInt ≤ (q_I δ 12 36 a0).toInt + 2000) ∧ AG ad a0 r.2 rp.2 ∧ rp.1 = r.1) := by
  unfold D_X12_rooms
  have f1 := ti_b x1
  have f2 := ti_b x2
  have f3 := cb_12_36 I k_a0
  try rw [A.1]
  try rw [A.2.1]
  try rw [A.2.2.1]
  try rw [A.2.2.2.1]
  refine ok2_biv (fun vx4 e5 => ?_)
  have f6 : vx4.toInt = (q_I δ 12 36 a0).toInt := congrArg Int32.toInt e5
  refine ok2_biv (fun vx7 e8 => ?_)
  first | (have q9 := te_addc (c := 1) (n := 1) rfl x1 (by omega) (by omega); rw [← e8] at q9; obtain ⟨f10, f11, f12⟩ := q9) | (obtain ⟨q9, f10, f11, f12⟩ : ∃ q : Int, vx7.toInt = x1.toInt + (1 : Int) + 4294967296 * q ∧ -2147483648 ≤ vx7.toInt ∧ vx7.toInt ≤ 2147483647 := by rw [e8]; exact ti_addc (c := 1) (n := 1) rfl x1)
  refine ok2_mono (vl_X12_rooms_11 L hN   k_a0 _ vx4 vx7 δ δp I (show 0 ≤ (x1).toInt by first | assumption | omega) (show (x1).toInt ≤ (x2).toInt by first | assumption | omega) (show (x2).toInt ≤ (x1).toInt + 2000 by first | assumption | omega) (show (x1).toInt + 1 ≤ (vx7).toInt by first | assumption | omega) (show (vx7).toInt ≤ (x2).toInt + 1 by first | assumption | omega) (show (x2).toInt ≤ (vx4).toInt by first | assumption | omega) (show (vx4).toInt ≤ 12000 by first | assumption | omega) (show (vx4).toInt ≤ (q_I δ 12 36 a0).toInt by first | assumption | omega) (show (q_I δ 12 36 a0).toInt ≤ (vx4).toInt + (vx7).toInt - (x1).toInt - 1 by first | assumption | omega) A (show (x2).toInt + 1 - (vx7).toInt < _ by omega)) (fun r13 r13p hr14 => ?_)
  obtain ⟨hq19, ha20, hb21⟩ := hr14
  obtain ⟨i15, ⟨u22, u23, u24⟩, p16, p17, p18⟩ := hq19
  have u25 := kp_t kp_r u22
  have v26 : q_V r13.2 = q_V δ := (u23).trans rfl
  have v27 := kr_t (kr_r (ad := ad)) u24
  have f28 := ti_b r13.1
  have f29 := cb_12_36 i15 k_a0
  have f30 := ti_b r13.1
  exact ⟨⟨by assumption, ⟨kp_w (by decide) u25, v26, kr_w (by decide) v27⟩, by first | assumption | omega, by first | assumption | omega, by first | assumption | omega⟩, ha20, hb21⟩
set_option maxHeartbeats 4000000 in
theorem vl_X12_roomMany_15 {ad : List Nat} {h : hp} (L : Lay TLx ad h) {δ0 : dp} {N : Nat} (hN : 10000000 ≤ N) {a0 : Nat} {x1 : Int32} {x2 : Int32} {x3 : Int32} {x4 : Int32} (k_a0 : q_K h.1 a0 = 12) : ∀ (n : Nat) (x5v : Int32) (x6v : Int32) (x7v : Int32) (δ : dp) (δp : dp), RI ad h.1 δ0 δ → 0 ≤ (x3).toInt → (x3).toInt ≤ (x4).toInt → (x4).toInt ≤ 14000 → 1 ≤ (x7v).toInt → (x7v).toInt ≤ (x4).toInt + 1 → (x4).toInt ≤ (q_I δ 12 36 a0).toInt → AG ad a0 δ δp → (x4).toInt + 1 - (x7v).toInt < (n : Int) → ok2 (L_X12_roomMany_15 N h.1 a0 x1 x2 x3 x4 n x5v x6v x7v δ) (L_X12_roomMany_15 N h.1 a0 x1 x2 x3 x4 n x5v x6v x7v δp) (fun r rp => (r.2 = δ) ∧ rp.2 = δp ∧ rp.1 = r.1) := by
  intro n
  induction n with
  | zero =>
    intro x5v x6v x7v δ δp I j0 j1 j2 j3 j4 j5 A hm
    have f1 := ti_b x3
    have f2 := ti_b x4
    have f3 := ti_b x7v
    have f4 := cb_12_36 I k_a0
    exfalso; omega
  | succ n ih =>
    intro x5v x6v x7v δ δp I j0 j1 j2 j3 j4 j5 A hm
    unfold L_X12_roomMany_15
    have f1 := ti_b x3
    have f2 := ti_b x4
    have f3 := ti_b x7v
    have f4 := cb_12_36 I k_a0
    try rw [A.1]
    try rw [A.2.1]
    try rw [A.2.2.1]
    try rw [A.2.2.2.1]
    first | (have q6 := te_subc (c := 1) (n := 1) rfl x4 (by omega) (by omega); obtain ⟨f7, f8, f9⟩ := q6) | (obtain ⟨q6, f7, f8, f9⟩ := ti_subc (c := 1) (n := 1) rfl x4)
    refine ok2_ite (fun h10 => ?_) (fun h10 => ?_)
    · have c11 : (x4 - (1 : Int32)).toInt ≤ x7v.toInt := o_le h10
      exact ok2_some (show (δ = δ) ∧ δp = δp ∧ x6v = x6v from ⟨rfl, rfl, rfl⟩)
    · have c12 : x7v.toInt < (x4 - (1 : Int32)).toInt := o_nle h10
      obtain ⟨b13, o14, k15, n16, w17⟩ := gO_12_35 L k_a0
      obtain rfl := gS_12_35 L k_a0 o14
      refine ok2_at o14 ?_
      have t18 := ti_tn x7v
      refine ok2_gd (fun hc19 => ?_) ?_
      · rcases hc19 with hc19 | hc19
        · have c20 : x7v.toInt < (0 : Int) := o_lt hc19
          omega
        · omega
      have hq21 : q_R δp (Ad ad 119) x7v.toNatClampNeg = q_R δ (Ad ad 119) x7v.toNatClampNeg := A.2.2.2.2 _ (by omega)
      try rw [hq21]
      have f22 := ti_b ((q_R δ (Ad ad 119) x7v.toNatClampNeg) >>> (x5v &&& 31))
      have f23 := ti_b (x1 >>> (x5v &&& 31))
      refine ok2_ite (fun h24 => ?_) (fun h24 => ?_)
      · have c25 : ((q_R δ (Ad ad 119) x7v.toNatClampNeg) >>> (x5v &&& 31)).toInt = (x1 >>> (x5v &&& 31)).toInt := o_eq h24
        unfold J_X12_roomMany_48
        try rw [A.1]
        try rw [A.2.1]
        try rw [A.2.2.1]
        try rw [A.2.2.2.1]
        have f28 := ti_b x6v
        refine ok2_biv (fun vx26 e27 => ?_)
        first | (have q29 := te_addc (c := 1) (n := 1) rfl x6v (by omega) (by omega); rw [← e27] at q29; obtain ⟨f30, f31, f32⟩ := q29) | (obtain ⟨q29, f30, f31, f32⟩ : ∃ q : Int, vx26.toInt = x6v.toInt + (1 : Int) + 4294967296 * q ∧ -2147483648 ≤ vx26.toInt ∧ vx26.toInt ≤ 2147483647 := by rw [e27]; exact ti_addc (c := 1) (n := 1) rfl x6v)
        refine ok2_biv (fun vx33 e34 => ?_)
        first | (have q35 := te_addc (c := 1) (n := 1) rfl x7v (by omega) (by omega); rw [← e34] at q35; obtain ⟨f36, f37, f38⟩ := q35) | (obtain ⟨q35, f36, f37, f38⟩ : ∃ q : Int, vx33.toInt = x7v.toInt + (1 : Int) + 4294967296 * q ∧ -2147483648 ≤ vx33.toInt ∧ vx33.toInt ≤ 2147483647 := by rw [e34]; exact ti_addc (c := 1) (n := 1) rfl x7v)
        refine ok2_mono (ih x5v vx26 vx33 δ δp I (show 0 ≤ (x3).toInt by first | assumption | omega) (show (x3).toInt ≤ (x4).toInt by first | assumption | omega) (show (x4).toInt ≤ 14000 by first | assumption | omega) (show 1 ≤ (vx33).toInt by first | assumption | omega) (show (vx33).toInt ≤ (x4).toInt + 1 by first | assumption | omega) (show (x4).toInt ≤ (q_I δ 12 36 a0).toInt by first | assumption | omega) A (show (x4).toInt + 1 - (vx33).toInt < _ by omega)) (fun r39 r39p hr40 => ?_)
        obtain ⟨hq42, ha43, hb44⟩ := hr40
        have i41 := hq42
        have f45 := ti_b r39.1
        exact ⟨by assumption, ha43, hb44⟩
      · have c46 : ((q_R δ (Ad ad 119) x7v.toNatClampNeg) >>> (x5v &&& 31)).toInt ≠ (x1 >>> (x5v &&& 31)).toInt := o_ne h24
        unfold J_X12_roomMany_48
        try rw [A.1]
        try rw [A.2.1]
        try rw [A.2.2.1]
        try rw [A.2.2.2.1]
        have f49 := ti_b x6v
        refine ok2_biv (fun vx47 e48 => ?_)
        first | (have q50 := te_addc (c := 0) (n := 0) rfl x6v (by omega) (by omega); rw [← e48] at q50; obtain ⟨f51, f52, f53⟩ := q50) | (obtain ⟨q50, f51, f52, f53⟩ : ∃ q : Int, vx47.toInt = x6v.toInt + (0 : Int) + 4294967296 * q ∧ -2147483648 ≤ vx47.toInt ∧ vx47.toInt ≤ 2147483647 := by rw [e48]; exact ti_addc (c := 0) (n := 0) rfl x6v)
        refine ok2_biv (fun vx54 e55 => ?_)
        first | (have q56 := te_addc (c := 1) (n := 1) rfl x7v (by omega) (by omega); rw [← e55] at q56; obtain ⟨f57, f58, f59⟩ := q56) | (obtain ⟨q56, f57, f58, f59⟩ : ∃ q : Int, vx54.toInt = x7v.toInt + (1 : Int) + 4294967296 * q ∧ -2147483648 ≤ vx54.toInt ∧ vx54.toInt ≤ 2147483647 := by rw [e55]; exact ti_addc (c := 1) (n := 1) rfl x7v)
        refine ok2_mono (ih x5v vx47 vx54 δ δp I (show 0 ≤ (x3).toInt by first | assumption | omega) (show (x3).toInt ≤ (x4).toInt by first | assumption | omega) (show (x4).toInt ≤ 14000 by first | assumption | omega) (show 1 ≤ (vx54).toInt by first | assumption | omega) (show (vx54).toInt ≤ (x4).toInt + 1 by first | assumption | omega) (show (x4).toInt ≤ (q_I δ 12 36 a0).toInt by first | assumption | omega) A (show (x4).toInt + 1 - (vx54).toInt < _ by omega)) (fun r60 r60p hr61 => ?_)
        obtain ⟨hq63, ha64, hb65⟩ := hr61
        have i62 := hq63
        have f66 := ti_b r60.1
        exact ⟨by assumption, ha64, hb65⟩
set_option maxHeartbeats 4000000 in
theorem v_X12_roomMany {ad : List Nat} {h : hp} (L : Lay TLx ad h) {δ0 : dp} {N : Nat} (hN : 10000000 ≤ N) {a0 : Nat} {x1 : Int32} {x2 : Int32} {x3 : Int32} {x4 : Int32} (k_a0 : q_K h.1 a0 = 12) {δ δp : dp} (z0 : 0 ≤ (x3).toInt) (z1 : (x3).toInt ≤ (x4).toInt) (z2 : (x4).toInt ≤ 14000) (z3 : (x4).toInt ≤ (q_I δ 12 36 a0).toInt) (I : RI ad h.1 δ0 δ) (A : AG ad a0 δ δp) : ok2 (D_X12_roomMany N h.1 a0 x1 x2 x3 x4 δ) (D_X12_roomMany N h.1 a0 x1 x2 x3 x4 δp) (fun r rp => (r.2 = δ) ∧ rp.2 = δp ∧ rp.1 = r.1) := by
  unfold D_X12_roomMany
  have f1 := ti_b x3
  have f2 := ti_b x4
  have f3 := cb_12_36 I k_a0
  try rw [A.1]
  try rw [A.2.1]
  try rw [A.2.2.1]
  try rw [A.2.2.2.1]
  refine ok2_bind (v_X12_lowerBits L hN (a0 := a0) (x1 := x2) k_a0 I A) (fun r4 r4p hr5 => ?_)
  obtain ⟨hq10, ha11, hb12⟩ := hr5
  try rw [hb12]
  try rw [ha11]
  obtain ⟨i6, p7, p8, p9⟩ := hq10
  try rw [i6]
  have f13 := ti_b x2
  have f14 := cb_12_12 I k_a0
  have f15 := ti_b r4.1
  have f16 := ti_b r4.1
  refine ok2_biv (fun vx17 e18 => ?_)
  first | (have q19 := te_addc (c := 1) (n := 1) rfl x3 (by omega) (by omega); rw [← e18] at q19; obtain ⟨f20, f21, f22⟩ := q19) | (obtain ⟨q19, f20, f21, f22⟩ : ∃ q : Int, vx17.toInt = x3.toInt + (1 : Int) + 4294967296 * q ∧ -2147483648 ≤ vx17.toInt ∧ vx17.toInt ≤ 2147483647 := by rw [e18]; exact ti_addc (c := 1) (n := 1) rfl x3)
  refine ok2_mono (vl_X12_roomMany_15 L hN   k_a0 _ r4.1 (0 : Int32) vx17 δ δp I (show 0 ≤ (x3).toInt by first | assumption | omega) (show (x3).toInt ≤ (x4).toInt by first | assumption | omega) (show (x4).toInt ≤ 14000 by first | assumption | omega) (show 1 ≤ (vx17).toInt by first | assumption | omega) (show (vx17).toInt ≤ (x4).toInt + 1 by first | assumption | omega) (show (x4).toInt ≤ (q_I δ 12 36 a0).toInt by first | assumption | omega) A (show (x4).toInt + 1 - (vx17).toInt < _ by omega)) (fun r23 r23p hr24 => ?_)
  obtain ⟨hq26, ha27, hb28⟩ := hr24
  have i25 := hq26
  have f29 := ti_b r23.1
  exact ⟨by assumption, ha27, hb28⟩
set_option maxHeartbeats 4000000 in
theorem vl_X12_roomEnd_15 {ad : List Nat} {h : hp} (L : Lay TLx ad h) {δ0 : dp} {N : Nat} (hN : 10000000 ≤ N) {a0 : Nat} {x1 : Int32} {x2 : Int32} {x3 : Int32} {x4 : Int32} {x5 : Int32} (k_a0 : q_K h.1 a0 = 12) : ∀ (n : Nat) (x6v : Int32) (x7v : Int32) (x8v : Int32) (δ : dp) (δp : dp), RI ad h.1 δ0 δ → 0 ≤ (x3).toInt → (x3).toInt ≤ (x4).toInt → (x4).toInt ≤ 14000 → 1 ≤ (x8v).toInt → (x8v).toInt ≤ (x4).toInt + 1 → (x4).toInt ≤ (q_I δ 12 36 a0).toInt → AG ad a0 δ δp → (x4).toInt + 1 - (x8v).toInt < (n : Int) → ok2 (L_X12_roomEnd_15 N h.1 a0 x1 x2 x3 x4 x5 n x6v x7v x8v δ) (L_X12_roomEnd_15 N h.1 a0 x1 x2 x3 x4 x5 n x6v x7v x8v δp) (fun r rp => (r.2 = δ) ∧ rp.2 = δp ∧ rp.1 = r.1) := by
  intro n
  induction n with
  | zero =>
    intro x6v x7v x8v δ δp I j0 j1 j2 j3 j4 j5 A hm
    have f1 := ti_b x3
    have f2 := ti_b x4
    have f3 := ti_b x8v
    have f4 := cb_12_36 I k_a0
    exfalso; omega
  | succ n ih =>
    intro x6v x7v x8v δ δp I j0 j1 j2 j3 j4 j5 A hm
    unfold L_X12_roomEnd_15
    have f1 := ti_b x3
    have f2 := ti_b x4
    have f3 := ti_b x8v
    have f4 := cb_12_36 I k_a0
    try rw [A.1]
    try rw [A.2.1]
    try rw [A.2.2.1]
    try rw [A.2.2.2.1]
    first | (have q6 := te_subc (c := 1) (n := 1) rfl x4 (by omega) (by omega); obtain ⟨f7, f8, f9⟩ := q6) | (obtain ⟨q6, f7, f8, f9⟩ := ti_subc (c := 1) (n := 1) rfl x4)
    refine ok2_ite (fun h10 => ?_) (fun h10 => ?_)
    · have c11 : (x4 - (1 : Int32)).toInt ≤ x8v.toInt := o_le h10
      exact ok2_some (show (δ = δ) ∧ δp = δp ∧ x7v = x7v from ⟨rfl, rfl, rfl⟩)
    · have c12 : x8v.toInt < (x4 - (1 : Int32)).toInt := o_nle h10
      obtain ⟨b13, o14, k15, n16, w17⟩ := gO_12_35 L k_a0
      obtain rfl := gS_12_35 L k_a0 o14
      refine ok2_at o14 ?_
      have t18 := ti_tn x8v
      refine ok2_gd (fun hc19 => ?_) ?_
      · rcases hc19 with hc19 | hc19
        · have c20 : x8v.toInt < (0 : Int) := o_lt hc19
          omega
        · omega
      have hq21 : q_R δp (Ad ad 119) x8v.toNatClampNeg = q_R δ (Ad ad 119) x8v.toNatClampNeg := A.2.2.2.2 _ (by omega)
      try rw [hq21]
      have f22 := ti_b ((q_R δ (Ad ad 119) x8v.toNatClampNeg) >>> (x6v &&& 31))
      have f23 := ti_b (x1 >>> (x6v &&& 31))
      refine ok2_ite (fun h24 => ?_) (fun h24 => ?_)
      · have c25 : ((q_R δ (Ad ad 119) x8v.toNatClampNeg) >>> (x6v &&& 31)).toInt = (x1 >>> (x6v &&& 31)).toInt := o_eq h24
        have f26 := ti_b x7v
        refine ok2_ite (fun h27 => ?_) (fun h27 => ?_)
        · have c28 : x7v.toInt = (-1 : Int) := o_eq h27
          unfold J_X12_roomEnd_55
          try rw [A.1]
          try rw [A.2.1]
          try rw [A.2.2.1]
          try rw [A.2.2.2.1]
          refine ok2_at o14 ?_
          refine ok2_gd (fun hc29 => ?_) ?_
          · rcases hc29 with hc29 | hc29
            · have c30 : x8v.toInt < (0 : Int) := o_lt hc29
              omega
            · omega
          try rw [hq21]
          have f33 := ti_b ((q_R δ (Ad ad 119) x8v.toNatClampNeg) &&& (((1 : Int32) <<< (x6v &&& 31)) - (1 : Int32)))
          refine ok2_biv (fun vx31 e32 => ?_)
          have f34 : vx31.toInt = ((q_R δ (Ad ad 119) x8v.toNatClampNeg) &&& (((1 : Int32) <<< (x6v &&& 31)) - (1 : Int32))).toInt := congrArg Int32.toInt e32
          unfold J_X12_roomEnd_71
          try rw [A.1]
          try rw [A.2.1]
          try rw [A.2.2.1]
          try rw [A.2.2.2.1]
          refine ok2_biv (fun vx35 e36 => ?_)
          first | (have q37 := te_addc (c := 1) (n := 1) rfl x8v (by omega) (by omega); rw [← e36] at q37; obtain ⟨f38, f39, f40⟩ := q37) | (obtain ⟨q37, f38, f39, f40⟩ : ∃ q : Int, vx35.toInt = x8v.toInt + (1 : Int) + 4294967296 * q ∧ -2147483648 ≤ vx35.toInt ∧ vx35.toInt ≤ 2147483647 := by rw [e36]; exact ti_addc (c := 1) (n := 1) rfl x8v)
          refine ok2_mono (ih x6v vx31 vx35 δ δp I (show 0 ≤ (x3).toInt by first | assumption | omega) (show (x3).toInt ≤ (x4).toInt by first | assumption | omega) (show (x4).toInt ≤ 14000 by first | assumption | omega) (show 1 ≤ (vx35).toInt by first | assumption | omega) (show (vx35).toInt ≤ (x4).toInt + 1 by first | assumption | omega) (show (x4).toInt ≤ (q_I δ 12 36 a0).toInt by first | assumption | omega) A (show (x4).toInt + 1 - (vx35).toInt < _ by omega)) (fun r41 r41p hr42 => ?_)
          obtain ⟨hq44, ha45, hb46⟩ := hr42
          have i43 := hq44
          have f47 := ti_b r41.1
          exact ⟨by assumption, ha45, hb46⟩
        · have c48 : x7v.toInt ≠ (-1 : Int) := o_ne h27
          have f49 := ti_b x5
          refine ok2_ite (fun h50 => ?_) (fun h50 => ?_)
          · have c51 : x5.toInt = (0 : Int) := o_eq h50
            unfold J_X12_roomEnd_55
            try rw [A.1]
            try rw [A.2.1]
            try rw [A.2.2.1]
            try rw [A.2.2.2.1]
            refine ok2_at o14 ?_
            refine ok2_gd (fun hc52 => ?_) ?_
            · rcases hc52 with hc52 | hc52
              · have c53 : x8v.toInt < (0 : Int) := o_lt hc52
                omega
              · omega
            try rw [hq21]
            have f56 := ti_b ((q_R δ (Ad ad 119) x8v.toNatClampNeg) &&& (((1 : Int32) <<< (x6v &&& 31)) - (1 : Int32)))
            refine ok2_biv (fun vx54 e55 => ?_)
            have f57 : vx54.toInt = ((q_R δ (Ad ad 119) x8v.toNatClampNeg) &&& (((1 : Int32) <<< (x6v &&& 31)) - (1 : Int32))).toInt := congrArg Int32.toInt e55
            unfold J_X12_roomEnd_71
            try rw [A.1]
            try rw [A.2.1]
            try rw [A.2.2.1]
            try rw [A.2.2.2.1]
            refine ok2_biv (fun vx58 e59 => ?_)
            first | (have q60 := te_addc (c := 1) (n := 1) rfl x8v (by omega) (by omega); rw [← e59] at q60; obtain ⟨f61, f62, f63⟩ := q60) | (obtain ⟨q60, f61, f62, f63⟩ : ∃ q : Int, vx58.toInt = x8v.toInt + (1 : Int) + 4294967296 * q ∧ -2147483648 ≤ vx58.toInt ∧ vx58.toInt ≤ 2147483647 := by rw [e59]; exact ti_addc (c := 1) (n := 1) rfl x8v)
            refine ok2_mono (ih x6v vx54 vx58 δ δp I (show 0 ≤ (x3).toInt by first | assumption | omega) (show (x3).toInt ≤ (x4).toInt by first | assumption | omega) (show (x4).toInt ≤ 14000 by first | assumption | omega) (show 1 ≤ (vx58).toInt by first | assumption | omega) (show (vx58).toInt ≤ (x4).toInt + 1 by first | assumption | omega) (show (x4).toInt ≤ (q_I δ 12 36 a0).toInt by first | assumption | omega) A (show (x4).toInt + 1 - (vx58).toInt < _ by omega)) (fun r64 r64p hr65 => ?_)
            obtain ⟨hq67, ha68, hb69⟩ := hr65
            have i66 := hq67
            have f70 := ti_b r64.1
            exact ⟨by assumption, ha68, hb69⟩
          · have c71 : x5.toInt ≠ (0 : Int) := o_ne h50
            unfold J_X12_roomEnd_71
            try rw [A.1]
            try rw [A.2.1]
            try rw [A.2.2.1]
            try rw [A.2.2.2.1]
            refine ok2_biv (fun vx72 e73 => ?_)
            first | (have q74 := te_addc (c := 1) (n := 1) rfl x8v (by omega) (by omega); rw [← e73] at q74; obtain ⟨f75, f76, f77⟩ := q74) | (obtain ⟨q74, f75, f76, f77⟩ : ∃ q : Int, vx72.toInt = x8v.toInt + (1 : Int) + 4294967296 * q ∧ -2147483648 ≤ vx72.toInt ∧ vx72.toInt ≤ 2147483647 := by rw [e73]; exact ti_addc (c := 1) (n := 1) rfl x8v)
            refine ok2_mono (ih x6v x7v vx72 δ δp I (show 0 ≤ (x3).toInt by first | assumption | omega) (show (x3).toInt ≤ (x4).toInt by first | assumption | omega) (show (x4).toInt ≤ 14000 by first | assumption | omega) (show 1 ≤ (vx72).toInt by first | assumption | omega) (show (vx72).toInt ≤ (x4).toInt + 1 by first | assumption | omega) (show (x4).toInt ≤ (q_I δ 12 36 a0).toInt by first | assumption | omega) A (show (x4).toInt + 1 - (vx72).toInt < _ by omega)) (fun r78 r78p hr79 => ?_)
            obtain ⟨hq81, ha82, hb83⟩ := hr79
            have i80 := hq81
            have f84 := ti_b r78.1
            exact ⟨by assumption, ha82, hb83⟩
      · have c85 : ((q_R δ (Ad ad 119) x8v.toNatClampNeg) >>> (x6v &&& 31)).toInt ≠ (x1 >>> (x6v &&& 31)).toInt := o_ne h24
        unfold J_X12_roomEnd_71
        try rw [A.1]
        try rw [A.2.1]
        try rw [A.2.2.1]
        try rw [A.2.2.2.1]
        refine ok2_biv (fun vx86 e87 => ?_)
        first | (have q88 := te_addc (c := 1) (n := 1) rfl x8v (by omega) (by omega); rw [← e87] at q88; obtain ⟨f89, f90, f91⟩ := q88) | (obtain ⟨q88, f89, f90, f91⟩ : ∃ q : Int, vx86.toInt = x8v.toInt + (1 : Int) + 4294967296 * q ∧ -2147483648 ≤ vx86.toInt ∧ vx86.toInt ≤ 2147483647 := by rw [e87]; exact ti_addc (c := 1) (n := 1) rfl x8v)
        refine ok2_mono (ih x6v x7v vx86 δ δp I (show 0 ≤ (x3).toInt by first | assumption | omega) (show (x3).toInt ≤ (x4).toInt by first | assumption | omega) (show (x4).toInt ≤ 14000 by first | assumption | omega) (show 1 ≤ (vx86).toInt by first | assumption | omega) (show (vx86).toInt ≤ (x4).toInt + 1 by first | assumption | omega) (show (x4).toInt ≤ (q_I δ 12 36 a0).toInt by first | assumption | omega) A (show (x4).toInt + 1 - (vx86).toInt < _ by omega)) (fun r92 r92p hr93 => ?_)
        obtain ⟨hq95, ha96, hb97⟩ := hr93
        have i94 := hq95
        have f98 := ti_b r92.1
        exact ⟨by assumption, ha96, hb97⟩
set_option maxHeartbeats 4000000 in
theorem v_X12_roomEnd {ad : List Nat} {h : hp} (L : Lay TLx ad h) {δ0 : dp} {N : Nat} (hN : 10000000 ≤ N) {a0 : Nat} {x1 : Int32} {x2 : Int32} {x3 : Int32} {x4 : Int32} {x5 : Int32} (k_a0 : q_K h.1 a0 = 12) {δ δp : dp} (z0 : 0 ≤ (x3).toInt) (z1 : (x3).toInt ≤ (x4).toInt) (z2 : (x4).toInt ≤ 14000) (z3 : (x4).toInt ≤ (q_I δ 12 36 a0).toInt) (I : RI ad h.1 δ0 δ) (A : AG ad a0 δ δp) : ok2 (D_X12_roomEnd N h.1 a0 x1 x2 x3 x4 x5 δ) (D_X12_roomEnd N h.1 a0 x1 x2 x3 x4 x5 δp) (fun r rp => (r.2 = δ) ∧ rp.2 = δp ∧ rp.1 = r.1) := by
  unfold D_X12_roomEnd
  have f1 := ti_b x3
  have f2 := ti_b x4
  have f3 := cb_12_36 I k_a0
  try rw [A.1]
  try rw [A.2.1]
  try rw [A.2.2.1]
  try rw [A.2.2.2.1]
  refine ok2_bind (v_X12_lowerBits L hN (a0 := a0) (x1 := x2) k_a0 I A) (fun r4 r4p hr5 => ?_)
  obtain ⟨hq10, ha11, hb12⟩ := hr5
  try rw [hb12]
  try rw [ha11]
  obtain ⟨i6, p7, p8, p9⟩ := hq10
  try rw [i6]
  have f13 := ti_b x2
  have f14 := cb_12_12 I k_a0
  have f15 := ti_b r4.1
  have f16 := ti_b r4.1
  refine ok2_biv (fun vx17 e18 => ?_)
  first | (have q19 := te_addc (c := 1) (n := 1) rfl x3 (by omega) (by omega); rw [← e18] at q19; obtain ⟨f20, f21, f22⟩ := q19) | (obtain ⟨q19, f20, f21, f22⟩ : ∃ q : Int, vx17.toInt = x3.toInt + (1 : Int) + 4294967296 * q ∧ -2147483648 ≤ vx17.toInt ∧ vx17.toInt ≤ 2147483647 := by rw [e18]; exact ti_addc (c := 1) (n := 1) rfl x3)
  refine ok2_mono (vl_X12_roomEnd_15 L hN   k_a0 _ r4.1 (-1 : Int32) vx17 δ δp I (show 0 ≤ (x3).toInt by first | assumption | omega) (show (x3).toInt ≤ (x4).toInt by first | assumption | omega) (show (x4).toInt ≤ 14000 by first | assumption | omega) (show 1 ≤ (vx17).toInt by first | assumption | omega) (show (vx17).toInt ≤ (x4).toInt + 1 by first | assumption | omega) (show (x4).toInt ≤ (q_I δ 12 36 a0).toInt by first | assumption | omega) A (show (x4).toInt + 1 - (vx17).toInt < _ by omega)) (fun r23 r23p hr24 => ?_)
  obtain ⟨hq26, ha27, hb28⟩ := hr24
  have i25 := hq26
  have f29 := ti_b r23.1
  exact ⟨by assumption, ha27, hb28⟩
set_option maxHeartbeats 4000000 in
theorem vl_X12_isInside_5 {ad : List Nat} {h : hp} (L : Lay TLx ad h) {δ0 : dp} {N : Nat} (hN : 10000000 ≤ N) {a0 : Nat} {x1 : Int32} {x2 : Int32} {x3 : Int32} (k_a0 : q_K h.1 a0 = 12) : ∀ (n : Nat) (x4v : Int32) (δ : dp) (δp : dp), RI ad h.1 δ0 δ → 0 ≤ (x2).toInt → (x2).toInt ≤ (x3).toInt → (x3).toInt ≤ 14000 → 1 ≤ (x4v).toInt → (x4v).toInt ≤ (x3).toInt + 1 → (x3).toInt ≤ (q_I δ 12 36 a0).toInt → AG ad a0 δ δp → (x3).toInt + 1 - (x4v).toInt < (n : Int) → ok2 (L_X12_isInside_5 N h.1 a0 x1 x2 x3 n x4v δ) (L_X12_isInside_5 N h.1 a0 x1 x2 x3 n x4v δp) (fun r rp => (r.2 = δ ∧ bo (r.1)) ∧ rp.2 = δp ∧ rp.1 = r.1) := by
  intro n
  induction n with
  | zero =>
    intro x4v δ δp I j0 j1 j2 j3 j4 j5 A hm
    have f1 := ti_b x2
    have f2 := ti_b x3
    have f3 := ti_b x4v
    have f4 := cb_12_36 I k_a0
    exfalso; omega
  | succ n ih =>
    intro x4v δ δp I j0 j1 j2 j3 j4 j5 A hm
    unfold L_X12_isInside_5
    have f1 := ti_b x2
    have f2 := ti_b x3
    have f3 := ti_b x4v
    have f4 := cb_12_36 I k_a0
    try rw [A.1]
    try rw [A.2.1]
    try rw [A.2.2.1]
    try rw [A.2.2.2.1]
    first | (have q6 := te_subc (c := 1) (n := 1) rfl x3 (by omega) (by omega); obtain ⟨f7, f8, f9⟩ := q6) | (obtain ⟨q6, f7, f8, f9⟩ := ti_subc (c := 1) (n := 1) rfl x3)
    refine ok2_ite (fun h10 => ?_) (fun h10 => ?_)
    · have c11 : (x3 - (1 : Int32)).toInt ≤ x4v.toInt := o_le h10
      refine ok2_gp (by decide) ?_
      exact ok2_some (show (δ = δ ∧ bo ((0 : Int32))) ∧ δp = δp ∧ (0 : Int32) = (0 : Int32) from ⟨⟨rfl, bo_0⟩, rfl, rfl⟩)
    · have c12 : x4v.toInt < (x3 - (1 : Int32)).toInt := o_nle h10
      obtain ⟨b13, o14, k15, n16, w17⟩ := gO_12_35 L k_a0
      obtain rfl := gS_12_35 L k_a0 o14
      refine ok2_at o14 ?_
      have t18 := ti_tn x4v
      refine ok2_gd (fun hc19 => ?_) ?_
      · rcases hc19 with hc19 | hc19
        · have c20 : x4v.toInt < (0 : Int) := o_lt hc19
          omega
        · omega
      have hq21 : q_R δp (Ad ad 119) x4v.toNatClampNeg = q_R δ (Ad ad 119) x4v.toNatClampNeg := A.2.2.2.2 _ (by omega)
      try rw [hq21]
      have f22 := ti_b (q_R δ (Ad ad 119) x4v.toNatClampNeg)
      have f23 := ti_b x1
      refine ok2_ite (fun h24 => ?_) (fun h24 => ?_)
      · have c25 : (q_R δ (Ad ad 119) x4v.toNatClampNeg).toInt = x1.toInt := o_eq h24
        refine ok2_gp (by decide) ?_
        exact ok2_some (show (δ = δ ∧ bo ((1 : Int32))) ∧ δp = δp ∧ (1 : Int32) = (1 : Int32) from ⟨⟨rfl, bo_1⟩, rfl, rfl⟩)
      · have c26 : (q_R δ (Ad ad 119) x4v.toNatClampNeg).toInt ≠ x1.toInt := o_ne h24
        refine ok2_biv (fun vx27 e28 => ?_)
        first | (have q29 := te_addc (c := 1) (n := 1) rfl x4v (by omega) (by omega); rw [← e28] at q29; obtain ⟨f30, f31, f32⟩ := q29) | (obtain ⟨q29, f30, f31, f32⟩ : ∃ q : Int, vx27.toInt = x4v.toInt + (1 : Int) + 4294967296 * q ∧ -2147483648 ≤ vx27.toInt ∧ vx27.toInt ≤ 2147483647 := by rw [e28]; exact ti_addc (c := 1) (n := 1) rfl x4v)
        refine ok2_mono (ih vx27 δ δp I (show 0 ≤ (x2).toInt by first | assumption | omega) (show (x2).toInt ≤ (x3).toInt by first | assumption | omega) (show (x3).toInt ≤ 14000 by first | assumption | omega) (show 1 ≤ (vx27).toInt by first | assumption | omega) (show (vx27).toInt ≤ (x3).toInt + 1 by first | assumption | omega) (show (x3).toInt ≤ (q_I δ 12 36 a0).toInt by first | assumption | omega) A (show (x3).toInt + 1 - (vx27).toInt < _ by omega)) (fun r33 r33p hr34 => ?_)
        obtain ⟨hq37, ha38, hb39⟩ := hr34
        obtain ⟨i35, p36⟩ := hq37
        have f40 := bo_l p36
        have f41 := ti_b r33.1
        exact ⟨⟨by assumption, by first | assumption | omega⟩, ha38, hb39⟩
set_option maxHeartbeats 4000000 in
theorem v_X12_isInside {ad : List Nat} {h : hp} (L : Lay TLx ad h) {δ0 : dp} {N : Nat} (hN : 10000000 ≤ N) {a0 : Nat} {x1 : Int32} {x2 : Int32} {x3 : Int32} (k_a0 : q_K h.1 a0 = 12) {δ δp : dp} (z0 : 0 ≤ (x2).toInt) (z1 : (x2).toInt ≤ (x3).toInt) (z2 : (x3).toInt ≤ 14000) (z3 : (x3).toInt ≤ (q_I δ 12 36 a0).toInt) (I : RI ad h.1 δ0 δ) (A : AG ad a0 δ δp) : ok2 (D_X12_isInside N h.1 a0 x1 x2 x3 δ) (D_X12_isInside N h.1 a0 x1 x2 x3 δp) (fun r rp => (r.2 = δ ∧ bo (r.1)) ∧ rp.2 = δp ∧ rp.1 = r.1) := by
  unfold D_X12_isInside
  have f1 := ti_b x2
  have f2 := ti_b x3
  have f3 := cb_12_36 I k_a0
  try rw [A.1]
  try rw [A.2.1]
  try rw [A.2.2.1]
  try rw [A.2.2.2.1]
  refine ok2_biv (fun vx4 e5 => ?_)
  first | (have q6 := te_addc (c := 1) (n := 1) rfl x2 (by omega) (by omega); rw [← e5] at q6; obtain ⟨f7, f8, f9⟩ := q6) | (obtain ⟨q6, f7, f8, f9⟩ : ∃ q : Int, vx4.toInt = x2.toInt + (1 : Int) + 4294967296 * q ∧ -2147483648 ≤ vx4.toInt ∧ vx4.toInt ≤ 2147483647 := by rw [e5]; exact ti_addc (c := 1) (n := 1) rfl x2)
  refine ok2_mono (vl_X12_isInside_5 L hN   k_a0 _ vx4 δ δp I (show 0 ≤ (x2).toInt by first | assumption | omega) (show (x2).toInt ≤ (x3).toInt by first | assumption | omega) (show (x3).toInt ≤ 14000 by first | assumption | omega) (show 1 ≤ (vx4).toInt by first | assumption | omega) (show (vx4).toInt ≤ (x3).toInt + 1 by first | assumption | omega) (show (x3).toInt ≤ (q_I δ 12 36 a0).toInt by first | assumption | omega) A (show (x3).toInt + 1 - (vx4).toInt < _ by omega)) (fun r10 r10p hr11 => ?_)
  obtain ⟨hq14, ha15, hb16⟩ := hr11
  obtain ⟨i12, p13⟩ := hq14
  have f17 := bo_l p13
  have f18 := ti_b r10.1
  exact ⟨⟨by assumption, by first | assumption | omega⟩, ha15, hb16⟩
set_option maxHeartbeats 4000000 in
theorem v_bX12_inList {ad : List Nat} {h : hp} (L : Lay TLx ad h) {δ0 : dp} {N : Nat} (hN : 10000000 ≤ N) {T : Nat → Int32 → Int32 → Int32 → Int32 → Int32 → dp → Option (Int32 × dp)} {K : Int} (hT : ∀ (a0 : Nat) (x1 : Int32) (x2 : Int32) (x3 : Int32) (x4 : Int32) (x5 : Int32) (δ : dp) (δp : dp), q_K h.1 a0 = 12 → 1 ≤ (x3).toInt → (x3).toInt ≤ 16 → 0 ≤ (x4).toInt → (x4).toInt ≤ (x5).toInt → (x5).toInt ≤ (x4).toInt + 2000 → (x5).toInt ≤ (q_I δ 12 36 a0).toInt → (q_I δ 12 36 a0).toInt ≤ 12000 → (1 < (x3).toInt → (q_I δ 12 36 a0).toInt ≤ 10000) → (2 < (x3).toInt → (q_I δ 12 36 a0).toInt ≤ 8000) → (4 < (x3).toInt → (q_I δ 12 36 a0).toInt ≤ 6000) → (8 < (x3).toInt → (q_I δ 12 36 a0).toInt ≤ 4000) → (x3).toInt < K → RI ad h.1 δ0 δ → AG ad a0 δ δp → ok2 (T a0 x1 x2 x3 x4 x5 δ) (T a0 x1 x2 x3 x4 x5 δp) (fun r rp => (RI ad h.1 δ0 r.2 ∧ (kp [(12, 36)] δ r.2 ∧ q_V r.2 = q_V δ ∧ kr ad [119] δ r.2) ∧ (q_I r.2 12 36 a0).toInt = (q_I δ 12 36 a0).toInt ∧ 1 ≤ (r.1).toInt ∧ (r.1).toInt ≤ 4 * (x3).toInt - 3) ∧ AG ad a0 r.2 rp.2 ∧ rp.1 = r.1)) {a0 : Nat} {x1 : Int32} {x2 : Int32} {x3 : Int32} {x4 : Int32} {x5 : Int32} (k_a0 : q_K h.1 a0 = 12) {δ δp : dp} (z0 : 2 ≤ (x3).toInt) (z1 : (x3).toInt ≤ 16) (z2 : 0 ≤ (x4).toInt) (z3 : (x4).toInt ≤ (x5).toInt) (z4 : (x5).toInt ≤ (x4).toInt + 2000) (z5 : (x5).toInt ≤ (q_I δ 12 36 a0).toInt) (z6 : (q_I δ 12 36 a0).toInt ≤ 12000) (z7 : 1 < (x3).toInt → (q_I δ 12 36 a0).toInt ≤ 10000) (z8 : 2 < (x3).toInt → (q_I δ 12 36 a0).toInt ≤ 8000) (z9 : 4 < (x3).toInt → (q_I δ 12 36 a0).toInt ≤ 6000) (z10 : 8 < (x3).toInt → (q_I δ 12 36 a0).toInt ≤ 4000) (z11 : (x3).toInt ≤ K) (I : RI ad h.1 δ0 δ) (A : AG ad a0 δ δp) : ok2 (B_X12_inList N h.1 T a0 x1 x2 x3 x4 x5 δ) (B_X12_inList N h.1 T a0 x1 x2 x3 x4 x5 δp) (fun r rp => (RI ad h.1 δ0 r.2 ∧ (kp [(12, 36)] δ r.2 ∧ q_V r.2 = q_V δ ∧ kr ad [119] δ r.2) ∧ (q_I r.2 12 36 a0).toInt = (q_I δ 12 36 a0).toInt ∧ 1 ≤ (r.1).toInt ∧ ((x3).toInt % 2 = 0 ∨ (q_I δ 12 12 a0).toInt = 1 → (r.1).toInt ≤ 4 * ((x3).toInt - (x3).toInt / 2) - 3) ∧ ((x3).toInt % 2 = 1 → (q_I δ 12 12 a0).toInt = 0 → (r.1).toInt ≤ 4 * ((x3).toInt - (x3).toInt / 2) - 7)) ∧ AG ad a0 r.2 rp.2 ∧ rp.1 = r.1) := by
  unfold B_X12_inList
  have f1 := ti_b x3
  have f2 := ti_b x4
  have f3 := ti_b x5
  have f4 := cb_12_36 I k_a0
  try rw [A.1]
  try rw [A.2.1]
  try rw [A.2.2.1]
  try rw [A.2.2.2.1]
  refine ok2_bind (v_X12_lowerBits L hN (a0 := a0) (x1 := x3) k_a0 I A) (fun r5 r5p hr6 => ?_)
  obtain ⟨hq11, ha12, hb13⟩ := hr6
  try rw [hb13]
  try rw [ha12]
  obtain ⟨i7, p8, p9, p10⟩ := hq11
  try rw [i7]
  have f14 := cb_12_12 I k_a0
  have f15 := ti_b r5.1
  have f16 := ti_b r5.1
  refine ok2_bind (v_X12_lists L hN (a0 := a0) (x1 := x4) (x2 := x5) (x3 := r5.1) k_a0 (show 0 ≤ (x4).toInt by first | assumption | omega) (show (x4).toInt ≤ (x5).toInt by first | assumption | omega) (show (x5).toInt ≤ (x4).toInt + 2000 by first | assumption | omega) (show (x5).toInt ≤ (q_I δ 12 36 a0).toInt by first | assumption | omega) (show (q_I δ 12 36 a0).toInt ≤ 12000 by first | assumption | omega) I A) (fun r17 r17p hr18 => ?_)
  obtain ⟨hq23, ha24, hb25⟩ := hr18
  try rw [hb25]
  obtain ⟨i19, ⟨u26, u27, u28⟩, p20, p21, p22⟩ := hq23
  have u29 := kp_t kp_r u26
  have v30 : q_V r17.2 = q_V δ := (u27).trans rfl
  have v31 := kr_t (kr_r (ad := ad)) u28
  try rw [ha24.1]
  try rw [ha24.2.1]
  try rw [ha24.2.2.1]
  try rw [ha24.2.2.2.1]
  have f32 := ti_b r17.1
  have f33 := cb_12_36 i19 k_a0
  have f34 := ti_b r17.1
  first | (have q38 := te_sub x3 r5.1 (by omega) (by omega); obtain ⟨f39, f40, f41⟩ := q38) | (obtain ⟨q38, f39, f40, f41⟩ := ti_sub x3 r5.1)
  refine ok2_bind (hT a0 x1 (x2 >>> (r5.1 &&& 31)) (x3 - r5.1) r17.1 (q_I r17.2 12 36 a0) r17.2 r17p.2 k_a0 (show 1 ≤ ((x3 - r5.1)).toInt by first | assumption | omega) (show ((x3 - r5.1)).toInt ≤ 16 by first | assumption | omega) (show 0 ≤ (r17.1).toInt by first | assumption | omega) (show (r17.1).toInt ≤ ((q_I r17.2 12 36 a0)).toInt by first | assumption | omega) (show ((q_I r17.2 12 36 a0)).toInt ≤ (r17.1).toInt + 2000 by first | assumption | omega) (show ((q_I r17.2 12 36 a0)).toInt ≤ (q_I r17.2 12 36 a0).toInt by first | assumption | omega) (show (q_I r17.2 12 36 a0).toInt ≤ 12000 by first | assumption | omega) (show 1 < ((x3 - r5.1)).toInt → (q_I r17.2 12 36 a0).toInt ≤ 10000 by first | assumption | omega) (show 2 < ((x3 - r5.1)).toInt → (q_I r17.2 12 36 a0).toInt ≤ 8000 by first | assumption | omega) (show 4 < ((x3 - r5.1)).toInt → (q_I r17.2 12 36 a0).toInt ≤ 6000 by first | assumption | omega) (show 8 < ((x3 - r5.1)).toInt → (q_I r17.2 12 36 a0).toInt ≤ 4000 by first | assumption | omega) (show ((x3 - r5.1)).toInt < _ by first | assumption | omega) i19 ha24) (fun r35 r35p hr36 => ?_)
  obtain ⟨hq46, ha47, hb48⟩ := hr36
  try rw [hb48]
  obtain ⟨i42, ⟨u49, u50, u51⟩, p43, p44, p45⟩ := hq46
  have u52 := kp_t u29 u49
  have v53 : q_V r35.2 = q_V δ := (u50).trans v30
  have v54 := kr_t v31 u51
  try rw [ha47.1]
  try rw [ha47.2.1]
  try rw [ha47.2.2.1]
  try rw [ha47.2.2.2.1]
  have f55 := cb_12_36 i42 k_a0
  have f56 := ti_b r35.1
  have f57 := ti_b r35.1
  refine ok2_bdv (fun d58 e59 d58p e59p => ?_)
  have i60 : RI ad h.1 δ0 d58 := by rw [e59]; exact cs_12_36 L i42 k_a0 (show 0 ≤ r17.1.toInt by omega) (show r17.1.toInt ≤ 14000 by omega)
  have u61 := kp_I u52 e59
  have v62 : q_V d58 = q_V δ := ((show q_V d58 = q_V r35.2 by rw [e59]; rfl)).trans v53
  have v63 := kr_N v54 (show q_R d58 = q_R r35.2 by rw [e59]; rfl)
  have ag64 : AG ad a0 d58 d58p := by rw [e59, e59p]; exact ha47.cut (show r17.1.toInt ≤ _ by omega)
  try rw [ag64.1]
  try rw [ag64.2.1]
  try rw [ag64.2.2.1]
  try rw [ag64.2.2.2.1]
  have f65 := cb_12_36 i60 k_a0
  have f66 : (q_I d58 12 36 a0).toInt = r17.1.toInt := congrArg Int32.toInt (show q_I d58 12 36 a0 = r17.1 by rw [e59]; exact rI_s)
  exact ok2_some (show (RI ad h.1 δ0 d58 ∧ (kp [(12, 36)] δ d58 ∧ q_V d58 = q_V δ ∧ kr ad [119] δ d58) ∧ (q_I d58 12 36 a0).toInt = (q_I δ 12 36 a0).toInt ∧ 1 ≤ (r35.1).toInt ∧ ((x3).toInt % 2 = 0 ∨ (q_I δ 12 12 a0).toInt = 1 → (r35.1).toInt ≤ 4 * ((x3).toInt - (x3).toInt / 2) - 3) ∧ ((x3).toInt % 2 = 1 → (q_I δ 12 12 a0).toInt = 0 → (r35.1).toInt ≤ 4 * ((x3).toInt - (x3).toInt / 2) - 7)) ∧ AG ad a0 d58 d58p ∧ r35.1 = r35.1 from ⟨⟨i60, ⟨kp_w (by decide) u61, v62, kr_w (by decide) v63⟩, by first | assumption | omega, by first | assumption | omega, by first | assumption | omega, by first | assumption | omega⟩, ag64, rfl⟩)
set_option maxHeartbeats 4000000 in
theorem v_bX12_inRoom {ad : List Nat} {h : hp} (L : Lay TLx ad h) {δ0 : dp} {N : Nat} (hN : 10000000 ≤ N) {T : Nat → Int32 → Int32 → Int32 → Int32 → Int32 → dp → Option (Int32 × dp)} {K : Int} (hT : ∀ (a0 : Nat) (x1 : Int32) (x2 : Int32) (x3 : Int32) (x4 : Int32) (x5 : Int32) (δ : dp) (δp : dp), q_K h.1 a0 = 12 → 1 ≤ (x3).toInt → (x3).toInt ≤ 16 → 0 ≤ (x4).toInt → (x4).toInt ≤ (x5).toInt → (x5).toInt ≤ (x4).toInt + 2000 → (x5).toInt ≤ (q_I δ 12 36 a0).toInt → (q_I δ 12 36 a0).toInt ≤ 12000 → (1 < (x3).toInt → (q_I δ 12 36 a0).toInt ≤ 10000) → (2 < (x3).toInt → (q_I δ 12 36 a0).toInt ≤ 8000) → (4 < (x3).toInt → (q_I δ 12 36 a0).toInt ≤ 6000) → (8 < (x3).toInt → (q_I δ 12 36 a0).toInt ≤ 4000) → (x3).toInt < K → RI ad h.1 δ0 δ → AG ad a0 δ δp → ok2 (T a0 x1 x2 x3 x4 x5 δ) (T a0 x1 x2 x3 x4 x5 δp) (fun r rp => (RI ad h.1 δ0 r.2 ∧ (kp [(12, 36)] δ r.2 ∧ q_V r.2 = q_V δ ∧ kr ad [119] δ r.2) ∧ (q_I r.2 12 36 a0).toInt = (q_I δ 12 36 a0).toInt ∧ 1 ≤ (r.1).toInt ∧ (r.1).toInt ≤ 4 * (x3).toInt - 3) ∧ AG ad a0 r.2 rp.2 ∧ rp.1 = r.1)) {a0 : Nat} {x1 : Int32} {x2 : Int32} {x3 : Int32} {x4 : Int32} {x5 : Int32} (k_a0 : q_K h.1 a0 = 12) {δ δp : dp} (z0 : 2 ≤ (x3).toInt) (z1 : (x3).toInt ≤ 16) (z2 : 0 ≤ (x4).toInt) (z3 : (x4).toInt ≤ (x5).toInt) (z4 : (x5).toInt ≤ (x4).toInt + 2000) (z5 : (x5).toInt ≤ (q_I δ 12 36 a0).toInt) (z6 : (q_I δ 12 36 a0).toInt ≤ 12000) (z7 : 1 < (x3).toInt → (q_I δ 12 36 a0).toInt ≤ 10000) (z8 : 2 < (x3).toInt → (q_I δ 12 36 a0).toInt ≤ 8000) (z9 : 4 < (x3).toInt → (q_I δ 12 36 a0).toInt ≤ 6000) (z10 : 8 < (x3).toInt → (q_I δ 12 36 a0).toInt ≤ 4000) (z11 : (x3).toInt ≤ K) (I : RI ad h.1 δ0 δ) (A : AG ad a0 δ δp) : ok2 (B_X12_inRoom N h.1 T a0 x1 x2 x3 x4 x5 δ) (B_X12_inRoom N h.1 T a0 x1 x2 x3 x4 x5 δp) (fun r rp => (RI ad h.1 δ0 r.2 ∧ (kp [(12, 36)] δ r.2 ∧ q_V r.2 = q_V δ ∧ kr ad [119] δ r.2) ∧ (q_I r.2 12 36 a0).toInt = (q_I δ 12 36 a0).toInt ∧ 1 ≤ (r.1).toInt ∧ ((x3).toInt % 2 = 0 ∨ (q_I δ 12 12 a0).toInt = 1 → (r.1).toInt ≤ 4 * ((x3).toInt / 2) - 3) ∧ ((x3).toInt % 2 = 1 → (q_I δ 12 12 a0).toInt = 0 → (r.1).toInt ≤ 4 * ((x3).toInt / 2) + 1)) ∧ AG ad a0 r.2 rp.2 ∧ rp.1 = r.1) := by
  unfold B_X12_inRoom
  have f1 := ti_b x3
  have f2 := ti_b x4
  have f3 := ti_b x5
  have f4 := cb_12_36 I k_a0
  try rw [A.1]
  try rw [A.2.1]
  try rw [A.2.2.1]
  try rw [A.2.2.2.1]
  refine ok2_bind (v_X12_lowerBits L hN (a0 := a0) (x1 := x3) k_a0 I A) (fun r5 r5p hr6 => ?_)
  obtain ⟨hq11, ha12, hb13⟩ := hr6
  try rw [hb13]
  try rw [ha12]
  obtain ⟨i7, p8, p9, p10⟩ := hq11
  try rw [i7]
  have f14 := cb_12_12 I k_a0
  have f15 := ti_b r5.1
  have f16 := ti_b r5.1
  refine ok2_bind (v_X12_rooms L hN (a0 := a0) (x1 := x4) (x2 := x5) (x3 := r5.1) (x4 := (x2 >>> (r5.1 &&& 31))) k_a0 (show 0 ≤ (x4).toInt by first | assumption | omega) (show (x4).toInt ≤ (x5).toInt by first | assumption | omega) (show (x5).toInt ≤ (x4).toInt + 2000 by first | assumption | omega) (show (x5).toInt ≤ (q_I δ 12 36 a0).toInt by first | assumption | omega) (show (q_I δ 12 36 a0).toInt ≤ 12000 by first | assumption | omega) I A) (fun r17 r17p hr18 => ?_)
  obtain ⟨hq23, ha24, hb25⟩ := hr18
  try rw [hb25]
  obtain ⟨i19, ⟨u26, u27, u28⟩, p20, p21, p22⟩ := hq23
  have u29 := kp_t kp_r u26
  have v30 : q_V r17.2 = q_V δ := (u27).trans rfl
  have v31 := kr_t (kr_r (ad := ad)) u28
  try rw [ha24.1]
  try rw [ha24.2.1]
  try rw [ha24.2.2.1]
  try rw [ha24.2.2.2.1]
  have f32 := ti_b r17.1
  have f33 := cb_12_36 i19 k_a0
  have f34 := ti_b r17.1
  refine ok2_bind (hT a0 x1 (x2 &&& (((1 : Int32) <<< (r5.1 &&& 31)) - (1 : Int32))) r5.1 r17.1 (q_I r17.2 12 36 a0) r17.2 r17p.2 k_a0 (show 1 ≤ (r5.1).toInt by first | assumption | omega) (show (r5.1).toInt ≤ 16 by first | assumption | omega) (show 0 ≤ (r17.1).toInt by first | assumption | omega) (show (r17.1).toInt ≤ ((q_I r17.2 12 36 a0)).toInt by first | assumption | omega) (show ((q_I r17.2 12 36 a0)).toInt ≤ (r17.1).toInt + 2000 by first | assumption | omega) (show ((q_I r17.2 12 36 a0)).toInt ≤ (q_I r17.2 12 36 a0).toInt by first | assumption | omega) (show (q_I r17.2 12 36 a0).toInt ≤ 12000 by first | assumption | omega) (show 1 < (r5.1).toInt → (q_I r17.2 12 36 a0).toInt ≤ 10000 by first | assumption | omega) (show 2 < (r5.1).toInt → (q_I r17.2 12 36 a0).toInt ≤ 8000 by first | assumption | omega) (show 4 < (r5.1).toInt → (q_I r17.2 12 36 a0).toInt ≤ 6000 by first | assumption | omega) (show 8 < (r5.1).toInt → (q_I r17.2 12 36 a0).toInt ≤ 4000 by first | assumption | omega) (show (r5.1).toInt < _ by first | assumption | omega) i19 ha24) (fun r35 r35p hr36 => ?_)
  obtain ⟨hq41, ha42, hb43⟩ := hr36
  try rw [hb43]
  obtain ⟨i37, ⟨u44, u45, u46⟩, p38, p39, p40⟩ := hq41
  have u47 := kp_t u29 u44
  have v48 : q_V r35.2 = q_V δ := (u45).trans v30
  have v49 := kr_t v31 u46
  try rw [ha42.1]
  try rw [ha42.2.1]
  try rw [ha42.2.2.1]
  try rw [ha42.2.2.2.1]
  have f50 := cb_12_36 i37 k_a0
  have f51 := ti_b r35.1
  have f52 := ti_b r35.1
  refine ok2_bdv (fun d53 e54 d53p e54p => ?_)
  have i55 : RI ad h.1 δ0 d53 := by rw [e54]; exact cs_12_36 L i37 k_a0 (show 0 ≤ r17.1.toInt by omega) (show r17.1.toInt ≤ 14000 by omega)
  have u56 := kp_I u47 e54
  have v57 : q_V d53 = q_V δ := ((show q_V d53 = q_V r35.2 by rw [e54]; rfl)).trans v48
  have v58 := kr_N v49 (show q_R d53 = q_R r35.2 by rw [e54]; rfl)
  have ag59 : AG ad a0 d53 d53p := by rw [e54, e54p]; exact ha42.cut (show r17.1.toInt ≤ _ by omega)
  try rw [ag59.1]
  try rw [ag59.2.1]
  try rw [ag59.2.2.1]
  try rw [ag59.2.2.2.1]
  have f60 := cb_12_36 i55 k_a0
  have f61 : (q_I d53 12 36 a0).toInt = r17.1.toInt := congrArg Int32.toInt (show q_I d53 12 36 a0 = r17.1 by rw [e54]; exact rI_s)
  exact ok2_some (show (RI ad h.1 δ0 d53 ∧ (kp [(12, 36)] δ d53 ∧ q_V d53 = q_V δ ∧ kr ad [119] δ d53) ∧ (q_I d53 12 36 a0).toInt = (q_I δ 12 36 a0).toInt ∧ 1 ≤ (r35.1).toInt ∧ ((x3).toInt % 2 = 0 ∨ (q_I δ 12 12 a0).toInt = 1 → (r35.1).toInt ≤ 4 * ((x3).toInt / 2) - 3) ∧ ((x3).toInt % 2 = 1 → (q_I δ 12 12 a0).toInt = 0 → (r35.1).toInt ≤ 4 * ((x3).toInt / 2) + 1)) ∧ AG ad a0 d53 d53p ∧ r35.1 = r35.1 from ⟨⟨i55, ⟨kp_w (by decide) u56, v57, kr_w (by decide) v58⟩, by first | assumption | omega, by first | assumption | omega, by first | assumption | omega, by first | assumption | omega⟩, ag59, rfl⟩)
set_option maxHeartbeats 4000000 in
theorem vj_X12_touchPut_64 {ad : List Nat} {h : hp} (L : Lay TLx ad h) {δ0 : dp} {N : Nat} (hN : 10000000 ≤ N) {T : Nat → Int32 → Int32 → Int32 → Int32 → Int32 → dp → Option (Int32 × dp)} {K : Int} (hT : ∀ (a0 : Nat) (x1 : Int32) (x2 : Int32) (x3 : Int32) (x4 : Int32) (x5 : Int32) (δ : dp) (δp : dp), q_K h.1 a0 = 12 → 1 ≤ (x3).toInt → (x3).toInt ≤ 16 → 0 ≤ (x4).toInt → (x4).toInt ≤ (x5).toInt → (x5).toInt ≤ (x4).toInt + 2000 → (x5).toInt ≤ (q_I δ 12 36 a0).toInt → (q_I δ 12 36 a0).toInt ≤ 12000 → (1 < (x3).toInt → (q_I δ 12 36 a0).toInt ≤ 10000) → (2 < (x3).toInt → (q_I δ 12 36 a0).toInt ≤ 8000) → (4 < (x3).toInt → (q_I δ 12 36 a0).toInt ≤ 6000) → (8 < (x3).toInt → (q_I δ 12 36 a0).toInt ≤ 4000) → (x3).toInt < K → RI ad h.1 δ0 δ → AG ad a0 δ δp → ok2 (T a0 x1 x2 x3 x4 x5 δ) (T a0 x1 x2 x3 x4 x5 δp) (fun r rp => (RI ad h.1 δ0 r.2 ∧ (kp [(12, 36)] δ r.2 ∧ q_V r.2 = q_V δ ∧ kr ad [119] δ r.2) ∧ (q_I r.2 12 36 a0).toInt = (q_I δ 12 36 a0).toInt ∧ 1 ≤ (r.1).toInt ∧ (r.1).toInt ≤ 4 * (x3).toInt - 3) ∧ AG ad a0 r.2 rp.2 ∧ rp.1 = r.1)) {a0 : Nat} {x1 : Int32} {x2 : Int32} {x3 : Int32} {x4 : Int32} {xs0 : Int32} (k_a0 : q_K h.1 a0 = 12) {δ δp : dp} (z0 : 2 ≤ (x2).toInt) (z1 : (x2).toInt ≤ 16) (z2 : 0 ≤ (x3).toInt) (z3 : (x3).toInt ≤ (x4).toInt) (z4 : (x4).toInt ≤ (x3).toInt + 2000) (z5 : (x4).toInt ≤ (q_I δ 12 36 a0).toInt) (z6 : (q_I δ 12 36 a0).toInt ≤ 12000) (z7 : 1 < (x2).toInt → (q_I δ 12 36 a0).toInt ≤ 10000) (z8 : 2 < (x2).toInt → (q_I δ 12 36 a0).toInt ≤ 8000) (z9 : 4 < (x2).toInt → (q_I δ 12 36 a0).toInt ≤ 6000) (z10 : 8 < (x2).toInt → (q_I δ 12 36 a0).toInt ≤ 4000) (z11 : (x2).toInt ≤ K) (z12 : (x3).toInt < (x4).toInt) (I : RI ad h.1 δ0 δ) (A : AG ad a0 δ δp) : ok2 (J_X12_touchPut_64 N h.1 T a0 x1 x2 x3 x4 xs0 δ) (J_X12_touchPut_64 N h.1 T a0 x1 x2 x3 x4 xs0 δp) (fun r rp => (RI ad h.1 δ0 r.2 ∧ (kp [(12, 36)] δ r.2 ∧ q_V r.2 = q_V δ ∧ kr ad [119] δ r.2) ∧ (q_I r.2 12 36 a0).toInt = (q_I δ 12 36 a0).toInt ∧ 1 ≤ (r.1).toInt ∧ (r.1).toInt ≤ 4 * (x2).toInt - 3) ∧ AG ad a0 r.2 rp.2 ∧ rp.1 = r.1) := by
  unfold J_X12_touchPut_64
  have f1 := ti_b x2
  have f2 := ti_b x3
  have f3 := ti_b x4
  have f4 := cb_12_36 I k_a0
  try rw [A.1]
  try rw [A.2.1]
  try rw [A.2.2.1]
  try rw [A.2.2.2.1]
  refine ok2_bind (v_X12_roomMany L hN (a0 := a0) (x1 := xs0) (x2 := x2) (x3 := x3) (x4 := x4) k_a0 (show 0 ≤ (x3).toInt by first | assumption | omega) (show (x3).toInt ≤ (x4).toInt by first | assumption | omega) (show (x4).toInt ≤ 14000 by first | assumption | omega) (show (x4).toInt ≤ (q_I δ 12 36 a0).toInt by first | assumption | omega) I A) (fun r5 r5p hr6 => ?_)
  obtain ⟨hq8, ha9, hb10⟩ := hr6
  try rw [hb10]
  try rw [ha9]
  have i7 := hq8
  try rw [i7]
  have f11 := ti_b r5.1
  refine ok2_ite (fun h12 => ?_) (fun h12 => ?_)
  · have c13 : r5.1.toInt = (0 : Int) := o_eq h12
    refine ok2_bind (v_bX12_inList L hN (a0 := a0) (x1 := (0 : Int32)) (x2 := xs0) (x3 := x2) (x4 := x3) (x5 := x4) hT k_a0 (show 2 ≤ (x2).toInt by first | assumption | omega) (show (x2).toInt ≤ 16 by first | assumption | omega) (show 0 ≤ (x3).toInt by first | assumption | omega) (show (x3).toInt ≤ (x4).toInt by first | assumption | omega) (show (x4).toInt ≤ (x3).toInt + 2000 by first | assumption | omega) (show (x4).toInt ≤ (q_I δ 12 36 a0).toInt by first | assumption | omega) (show (q_I δ 12 36 a0).toInt ≤ 12000 by first | assumption | omega) (show 1 < (x2).toInt → (q_I δ 12 36 a0).toInt ≤ 10000 by first | assumption | omega) (show 2 < (x2).toInt → (q_I δ 12 36 a0).toInt ≤ 8000 by first | assumption | omega) (show 4 < (x2).toInt → (q_I δ 12 36 a0).toInt ≤ 6000 by first | assumption | omega) (show 8 < (x2).toInt → (q_I δ 12 36 a0).toInt ≤ 4000 by first | assumption | omega) (show (x2).toInt ≤ K by first | assumption | omega) I A) (fun r14 r14p hr15 => ?_)
    obtain ⟨hq21, ha22, hb23⟩ := hr15
    try rw [hb23]
    obtain ⟨i16, ⟨u24, u25, u26⟩, p17, p18, p19, p20⟩ := hq21
    have u27 := kp_t kp_r u24
    have v28 : q_V r14.2 = q_V δ := (u25).trans rfl
    have v29 := kr_t (kr_r (ad := ad)) u26
    try rw [ha22.1]
    try rw [ha22.2.1]
    try rw [ha22.2.2.1]
    try rw [ha22.2.2.2.1]
    have f30 := cb_12_36 i16 k_a0
    have f31 := ti_b r14.1
    have f32 := cb_12_12 I k_a0
    have f33 := ti_b r14.1
    unfold J_X12_touchPut_108
    try rw [ha22.1]
    try rw [ha22.2.1]
    try rw [ha22.2.2.1]
    try rw [ha22.2.2.2.1]
    first | (have q35 := te_cadd (c := 2) (n := 2) rfl r14.1 (by omega) (by omega); obtain ⟨f36, f37, f38⟩ := q35) | (obtain ⟨q35, f36, f37, f38⟩ := ti_cadd (c := 2) (n := 2) rfl r14.1)
    exact ok2_some (show (RI ad h.1 δ0 r14.2 ∧ (kp [(12, 36)] δ r14.2 ∧ q_V r14.2 = q_V δ ∧ kr ad [119] δ r14.2) ∧ (q_I r14.2 12 36 a0).toInt = (q_I δ 12 36 a0).toInt ∧ 1 ≤ (((2 : Int32) + r14.1)).toInt ∧ (((2 : Int32) + r14.1)).toInt ≤ 4 * (x2).toInt - 3) ∧ AG ad a0 r14.2 r14p.2 ∧ ((2 : Int32) + r14.1) = ((2 : Int32) + r14.1) from ⟨⟨i16, ⟨kp_w (by decide) u27, v28, kr_w (by decide) v29⟩, by first | assumption | omega, by first | assumption | omega, by first | assumption | omega⟩, ha22, rfl⟩)
  · have c39 : r5.1.toInt ≠ (0 : Int) := o_ne h12
    refine ok2_bind (v_bX12_inRoom L hN (a0 := a0) (x1 := (0 : Int32)) (x2 := xs0) (x3 := x2) (x4 := x3) (x5 := x4) hT k_a0 (show 2 ≤ (x2).toInt by first | assumption | omega) (show (x2).toInt ≤ 16 by first | assumption | omega) (show 0 ≤ (x3).toInt by first | assumption | omega) (show (x3).toInt ≤ (x4).toInt by first | assumption | omega) (show (x4).toInt ≤ (x3).toInt + 2000 by first | assumption | omega) (show (x4).toInt ≤ (q_I δ 12 36 a0).toInt by first | assumption | omega) (show (q_I δ 12 36 a0).toInt ≤ 12000 by first | assumption | omega) (show 1 < (x2).toInt → (q_I δ 12 36 a0).toInt ≤ 10000 by first | assumption | omega) (show 2 < (x2).toInt → (q_I δ 12 36 a0).toInt ≤ 8000 by first | assumption | omega) (show 4 < (x2).toInt → (q_I δ 12 36 a0).toInt ≤ 6000 by first | assumption | omega) (show 8 < (x2).toInt → (q_I δ 12 36 a0).toInt ≤ 4000 by first | assumption | omega) (show (x2).toInt ≤ K by first | assumption | omega) I A) (fun r40 r40p hr41 => ?_)
    obtain ⟨hq47, ha48, hb49⟩ := hr41
    try rw [hb49]
    obtain ⟨i42, ⟨u50, u51, u52⟩, p43, p44, p45, p46⟩ := hq47
    have u53 := kp_t kp_r u50
    have v54 : q_V r40.2 = q_V δ := (u51).trans rfl
    have v55 := kr_t (kr_r (ad := ad)) u52
    try rw [ha48.1]
    try rw [ha48.2.1]
    try rw [ha48.2.2.1]
    try rw [ha48.2.2.2.1]
    have f56 := cb_12_36 i42 k_a0
    have f57 := ti_b r40.1
    have f58 := cb_12_12 I k_a0
    have f59 := ti_b r40.1
    unfold J_X12_touchPut_108
    try rw [ha48.1]
    try rw [ha48.2.1]
    try rw [ha48.2.2.1]
    try rw [ha48.2.2.2.1]
    first | (have q61 := te_cadd (c := 1) (n := 1) rfl r40.1 (by omega) (by omega); obtain ⟨f62, f63, f64⟩ := q61) | (obtain ⟨q61, f62, f63, f64⟩ := ti_cadd (c := 1) (n := 1) rfl r40.1)
    exact ok2_some (show (RI ad h.1 δ0 r40.2 ∧ (kp [(12, 36)] δ r40.2 ∧ q_V r40.2 = q_V δ ∧ kr ad [119] δ r40.2) ∧ (q_I r40.2 12 36 a0).toInt = (q_I δ 12 36 a0).toInt ∧ 1 ≤ (((1 : Int32) + r40.1)).toInt ∧ (((1 : Int32) + r40.1)).toInt ≤ 4 * (x2).toInt - 3) ∧ AG ad a0 r40.2 r40p.2 ∧ ((1 : Int32) + r40.1) = ((1 : Int32) + r40.1) from ⟨⟨i42, ⟨kp_w (by decide) u53, v54, kr_w (by decide) v55⟩, by first | assumption | omega, by first | assumption | omega, by first | assumption | omega⟩, ha48, rfl⟩)
set_option maxHeartbeats 4000000 in
theorem v_bX12_touchPut {ad : List Nat} {h : hp} (L : Lay TLx ad h) {δ0 : dp} {N : Nat} (hN : 10000000 ≤ N) {T : Nat → Int32 → Int32 → Int32 → Int32 → Int32 → dp → Option (Int32 × dp)} {K : Int} (hT : ∀ (a0 : Nat) (x1 : Int32) (x2 : Int32) (x3 : Int32) (x4 : Int32) (x5 : Int32) (δ : dp) (δp : dp), q_K h.1 a0 = 12 → 1 ≤ (x3).toInt → (x3).toInt ≤ 16 → 0 ≤ (x4).toInt → (x4).toInt ≤ (x5).toInt → (x5).toInt ≤ (x4).toInt + 2000 → (x5).toInt ≤ (q_I δ 12 36 a0).toInt → (q_I δ 12 36 a0).toInt ≤ 12000 → (1 < (x3).toInt → (q_I δ 12 36 a0).toInt ≤ 10000) → (2 < (x3).toInt → (q_I δ 12 36 a0).toInt ≤ 8000) → (4 < (x3).toInt → (q_I δ 12 36 a0).toInt ≤ 6000) → (8 < (x3).toInt → (q_I δ 12 36 a0).toInt ≤ 4000) → (x3).toInt < K → RI ad h.1 δ0 δ → AG ad a0 δ δp → ok2 (T a0 x1 x2 x3 x4 x5 δ) (T a0 x1 x2 x3 x4 x5 δp) (fun r rp => (RI ad h.1 δ0 r.2 ∧ (kp [(12, 36)] δ r.2 ∧ q_V r.2 = q_V δ ∧ kr ad [119] δ r.2) ∧ (q_I r.2 12 36 a0).toInt = (q_I δ 12 36 a0).toInt ∧ 1 ≤ (r.1).toInt ∧ (r.1).toInt ≤ 4 * (x3).toInt - 3) ∧ AG ad a0 r.2 rp.2 ∧ rp.1 = r.1)) {a0 : Nat} {x1 : Int32} {x2 : Int32} {x3 : Int32} {x4 : Int32} (k_a0 : q_K h.1 a0 = 12) {δ δp : dp} (z0 : 2 ≤ (x2).toInt) (z1 : (x2).toInt ≤ 16) (z2 : 0 ≤ (x3).toInt) (z3 : (x3).toInt ≤ (x4).toInt) (z4 : (x4).toInt ≤ (x3).toInt + 2000) (z5 : (x4).toInt ≤ (q_I δ 12 36 a0).toInt) (z6 : (q_I δ 12 36 a0).toInt ≤ 12000) (z7 : 1 < (x2).toInt → (q_I δ 12 36 a0).toInt ≤ 10000) (z8 : 2 < (x2).toInt → (q_I δ 12 36 a0).toInt ≤ 8000) (z9 : 4 < (x2).toInt → (q_I δ 12 36 a0).toInt ≤ 6000) (z10 : 8 < (x2).toInt → (q_I δ 12 36 a0).toInt ≤ 4000) (z11 : (x2).toInt ≤ K) (z12 : (x3).toInt < (x4).toInt) (I : RI ad h.1 δ0 δ) (A : AG ad a0 δ δp) : ok2 (B_X12_touchPut N h.1 T a0 x1 x2 x3 x4 δ) (B_X12_touchPut N h.1 T a0 x1 x2 x3 x4 δp) (fun r rp => (RI ad h.1 δ0 r.2 ∧ (kp [(12, 36)] δ r.2 ∧ q_V r.2 = q_V δ ∧ kr ad [119] δ r.2) ∧ (q_I r.2 12 36 a0).toInt = (q_I δ 12 36 a0).toInt ∧ 1 ≤ (r.1).toInt ∧ (r.1).toInt ≤ 4 * (x2).toInt - 3) ∧ AG ad a0 r.2 rp.2 ∧ rp.1 = r.1) := by
  unfold B_X12_touchPut
  have f1 := ti_b x2
  have f2 := ti_b x3
  have f3 := ti_b x4
  have f4 := cb_12_36 I k_a0
  try rw [A.1]
  try rw [A.2.1]
  try rw [A.2.2.1]
  try rw [A.2.2.2.1]
  obtain ⟨b5, o6, k7, n8, w9⟩ := gO_12_35 L k_a0
  obtain rfl := gS_12_35 L k_a0 o6
  refine ok2_at o6 ?_
  have t10 := ti_tn x3
  refine ok2_gd (fun hc11 => ?_) ?_
  · rcases hc11 with hc11 | hc11
    · have c12 : x3.toInt < (0 : Int) := o_lt hc11
      omega
    · omega
  have hq15 : q_R δp (Ad ad 119) x3.toNatClampNeg = q_R δ (Ad ad 119) x3.toNatClampNeg := A.2.2.2.2 _ (by omega)
  try rw [hq15]
  have f16 := ti_b (q_R δ (Ad ad 119) x3.toNatClampNeg)
  refine ok2_biv (fun vx13 e14 => ?_)
  have f17 : vx13.toInt = (q_R δ (Ad ad 119) x3.toNatClampNeg).toInt := congrArg Int32.toInt e14
  refine ok2_at o6 ?_
  first | (have q19 := te_subc (c := 1) (n := 1) rfl x4 (by omega) (by omega); obtain ⟨f20, f21, f22⟩ := q19) | (obtain ⟨q19, f20, f21, f22⟩ := ti_subc (c := 1) (n := 1) rfl x4)
  have t23 := ti_tn (x4 - (1 : Int32))
  refine ok2_gd (fun hc24 => ?_) ?_
  · rcases hc24 with hc24 | hc24
    · have c25 : (x4 - (1 : Int32)).toInt < (0 : Int) := o_lt hc24
      omega
    · omega
  have hq28 : q_R δp (Ad ad 119) (x4 - (1 : Int32)).toNatClampNeg = q_R δ (Ad ad 119) (x4 - (1 : Int32)).toNatClampNeg := A.2.2.2.2 _ (by omega)
  try rw [hq28]
  have f29 := ti_b (q_R δ (Ad ad 119) (x4 - (1 : Int32)).toNatClampNeg)
  refine ok2_biv (fun vx26 e27 => ?_)
  have f30 : vx26.toInt = (q_R δ (Ad ad 119) (x4 - (1 : Int32)).toNatClampNeg).toInt := congrArg Int32.toInt e27
  have f31 := ti_b x1
  refine ok2_ite (fun h32 => ?_) (fun h32 => ?_)
  · have c33 : x1.toInt = vx13.toInt := o_eq h32
    unfold J_X12_touchPut_39
    try rw [A.1]
    try rw [A.2.1]
    try rw [A.2.2.1]
    try rw [A.2.2.2.1]
    exact ok2_some (show (RI ad h.1 δ0 δ ∧ (kp [(12, 36)] δ δ ∧ q_V δ = q_V δ ∧ kr ad [119] δ δ) ∧ (q_I δ 12 36 a0).toInt = (q_I δ 12 36 a0).toInt ∧ 1 ≤ (1 : Int) ∧ (1 : Int) ≤ 4 * (x2).toInt - 3) ∧ AG ad a0 δ δp ∧ (1 : Int32) = (1 : Int32) from ⟨⟨I, ⟨kp_w (by decide) kp_r, rfl, kr_w (by decide) (kr_r (ad := ad))⟩, by first | assumption | omega, by first | assumption | omega, by first | assumption | omega⟩, A, rfl⟩)
  · have c34 : x1.toInt ≠ vx13.toInt := o_ne h32
    refine ok2_ite (fun h35 => ?_) (fun h35 => ?_)
    · have c36 : x1.toInt = vx26.toInt := o_eq h35
      unfold J_X12_touchPut_39
      try rw [A.1]
      try rw [A.2.1]
      try rw [A.2.2.1]
      try rw [A.2.2.2.1]
      exact ok2_some (show (RI ad h.1 δ0 δ ∧ (kp [(12, 36)] δ δ ∧ q_V δ = q_V δ ∧ kr ad [119] δ δ) ∧ (q_I δ 12 36 a0).toInt = (q_I δ 12 36 a0).toInt ∧ 1 ≤ (1 : Int) ∧ (1 : Int) ≤ 4 * (x2).toInt - 3) ∧ AG ad a0 δ δp ∧ (1 : Int32) = (1 : Int32) from ⟨⟨I, ⟨kp_w (by decide) kp_r, rfl, kr_w (by decide) (kr_r (ad := ad))⟩, by first | assumption | omega, by first | assumption | omega, by first | assumption | omega⟩, A, rfl⟩)
    · have c37 : x1.toInt ≠ vx26.toInt := o_ne h35
      first | (have q39 := te_sub x4 x3 (by omega) (by omega); obtain ⟨f40, f41, f42⟩ := q39) | (obtain ⟨q39, f40, f41, f42⟩ := ti_sub x4 x3)
      refine ok2_ite (fun h43 => ?_) (fun h43 => ?_)
      · have c44 : (x4 - x3).toInt = (1 : Int) := o_eq h43
        unfold J_X12_touchPut_39
        try rw [A.1]
        try rw [A.2.1]
        try rw [A.2.2.1]
        try rw [A.2.2.2.1]
        exact ok2_some (show (RI ad h.1 δ0 δ ∧ (kp [(12, 36)] δ δ ∧ q_V δ = q_V δ ∧ kr ad [119] δ δ) ∧ (q_I δ 12 36 a0).toInt = (q_I δ 12 36 a0).toInt ∧ 1 ≤ (1 : Int) ∧ (1 : Int) ≤ 4 * (x2).toInt - 3) ∧ AG ad a0 δ δp ∧ (1 : Int32) = (1 : Int32) from ⟨⟨I, ⟨kp_w (by decide) kp_r, rfl, kr_w (by decide) (kr_r (ad := ad))⟩, by first | assumption | omega, by first | assumption | omega, by first | assumption | omega⟩, A, rfl⟩)
      · have c45 : (x4 - x3).toInt ≠ (1 : Int) := o_ne h43
        refine ok2_ite (fun h46 => ?_) (fun h46 => ?_)
        · have c47 : vx13.toInt ≤ x1.toInt := o_le h46
          refine ok2_ite (fun h48 => ?_) (fun h48 => ?_)
          · have c49 : x1.toInt ≤ vx26.toInt := o_le h48
            refine ok2_mono (vj_X12_touchPut_64 L hN (a0 := a0) (x1 := x1) (x2 := x2) (x3 := x3) (x4 := x4) (xs0 := x1) hT k_a0 (show 2 ≤ (x2).toInt by first | assumption | omega) (show (x2).toInt ≤ 16 by first | assumption | omega) (show 0 ≤ (x3).toInt by first | assumption | omega) (show (x3).toInt ≤ (x4).toInt by first | assumption | omega) (show (x4).toInt ≤ (x3).toInt + 2000 by first | assumption | omega) (show (x4).toInt ≤ (q_I δ 12 36 a0).toInt by first | assumption | omega) (show (q_I δ 12 36 a0).toInt ≤ 12000 by first | assumption | omega) (show 1 < (x2).toInt → (q_I δ 12 36 a0).toInt ≤ 10000 by first | assumption | omega) (show 2 < (x2).toInt → (q_I δ 12 36 a0).toInt ≤ 8000 by first | assumption | omega) (show 4 < (x2).toInt → (q_I δ 12 36 a0).toInt ≤ 6000 by first | assumption | omega) (show 8 < (x2).toInt → (q_I δ 12 36 a0).toInt ≤ 4000 by first | assumption | omega) (show (x2).toInt ≤ K by first | assumption | omega) (show (x3).toInt < (x4).toInt by first | assumption | omega) I A) (fun r50 r50p hr51 => ?_)
            obtain ⟨hq56, ha57, hb58⟩ := hr51
            obtain ⟨i52, ⟨u59, u60, u61⟩, p53, p54, p55⟩ := hq56
            have u62 := kp_t kp_r u59
            have v63 : q_V r50.2 = q_V δ := (u60).trans rfl
            have v64 := kr_t (kr_r (ad := ad)) u61
            have f65 := cb_12_36 i52 k_a0
            have f66 := ti_b r50.1
            have f67 := ti_b r50.1
            exact ⟨⟨by assumption, ⟨kp_w (by decide) u62, v63, kr_w (by decide) v64⟩, by first | assumption | omega, by first | assumption | omega, by first | assumption | omega⟩, ha57, hb58⟩
          · have c68 : vx26.toInt < x1.toInt := o_nle h48
            refine ok2_mono (vj_X12_touchPut_64 L hN (a0 := a0) (x1 := x1) (x2 := x2) (x3 := x3) (x4 := x4) (xs0 := vx26) hT k_a0 (show 2 ≤ (x2).toInt by first | assumption | omega) (show (x2).toInt ≤ 16 by first | assumption | omega) (show 0 ≤ (x3).toInt by first | assumption | omega) (show (x3).toInt ≤ (x4).toInt by first | assumption | omega) (show (x4).toInt ≤ (x3).toInt + 2000 by first | assumption | omega) (show (x4).toInt ≤ (q_I δ 12 36 a0).toInt by first | assumption | omega) (show (q_I δ 12 36 a0).toInt ≤ 12000 by first | assumption | omega) (show 1 < (x2).toInt → (q_I δ 12 36 a0).toInt ≤ 10000 by first | assumption | omega) (show 2 < (x2).toInt → (q_I δ 12 36 a0).toInt ≤ 8000 by first | assumption | omega) (show 4 < (x2).toInt → (q_I δ 12 36 a0).toInt ≤ 6000 by first | assumption | omega) (show 8 < (x2).toInt → (q_I δ 12 36 a0).toInt ≤ 4000 by first | assumption | omega) (show (x2).toInt ≤ K by first | assumption | omega) (show (x3).toInt < (x4).toInt by first | assumption | omega) I A) (fun r69 r69p hr70 => ?_)
            obtain ⟨hq75, ha76, hb77⟩ := hr70
            obtain ⟨i71, ⟨u78, u79, u80⟩, p72, p73, p74⟩ := hq75
            have u81 := kp_t kp_r u78
            have v82 : q_V r69.2 = q_V δ := (u79).trans rfl
            have v83 := kr_t (kr_r (ad := ad)) u80
            have f84 := cb_12_36 i71 k_a0
            have f85 := ti_b r69.1
            have f86 := ti_b r69.1
            exact ⟨⟨by assumption, ⟨kp_w (by decide) u81, v82, kr_w (by decide) v83⟩, by first | assumption | omega, by first | assumption | omega, by first | assumption | omega⟩, ha76, hb77⟩
        · have c87 : x1.toInt < vx13.toInt := o_nle h46
          refine ok2_mono (vj_X12_touchPut_64 L hN (a0 := a0) (x1 := x1) (x2 := x2) (x3 := x3) (x4 := x4) (xs0 := vx13) hT k_a0 (show 2 ≤ (x2).toInt by first | assumption | omega) (show (x2).toInt ≤ 16 by first | assumption | omega) (show 0 ≤ (x3).toInt by first | assumption | omega) (show (x3).toInt ≤ (x4).toInt by first | assumption | omega) (show (x4).toInt ≤ (x3).toInt + 2000 by first | assumption | omega) (show (x4).toInt ≤ (q_I δ 12 36 a0).toInt by first | assumption | omega) (show (q_I δ 12 36 a0).toInt ≤ 12000 by first | assumption | omega) (show 1 < (x2).toInt → (q_I δ 12 36 a0).toInt ≤ 10000 by first | assumption | omega) (show 2 < (x2).toInt → (q_I δ 12 36 a0).toInt ≤ 8000 by first | assumption | omega) (show 4 < (x2).toInt → (q_I δ 12 36 a0).toInt ≤ 6000 by first | assumption | omega) (show 8 < (x2).toInt → (q_I δ 12 36 a0).toInt ≤ 4000 by first | assumption | omega) (show (x2).toInt ≤ K by first | assumption | omega) (show (x3).toInt < (x4).toInt by first | assumption | omega) I A) (fun r88 r88p hr89 => ?_)
          obtain ⟨hq94, ha95, hb96⟩ := hr89
          obtain ⟨i90, ⟨u97, u98, u99⟩, p91, p92, p93⟩ := hq94
          have u100 := kp_t kp_r u97
          have v101 : q_V r88.2 = q_V δ := (u98).trans rfl
          have v102 := kr_t (kr_r (ad := ad)) u99
          have f103 := cb_12_36 i90 k_a0
          have f104 := ti_b r88.1
          have f105 := ti_b r88.1
          exact ⟨⟨by assumption, ⟨kp_w (by decide) u100, v101, kr_w (by decide) v102⟩, by first | assumption | omega, by first | assumption | omega, by first | assumption | omega⟩, ha95, hb96⟩
set_option maxHeartbeats 4000000 in
theorem vj_X12_touchDrop_121 {ad : List Nat} {h : hp} (L : Lay TLx ad h) {δ0 : dp} {N : Nat} (hN : 10000000 ≤ N) {T : Nat → Int32 → Int32 → Int32 → Int32 → Int32 → dp → Option (Int32 × dp)} {K : Int} (hT : ∀ (a0 : Nat) (x1 : Int32) (x2 : Int32) (x3 : Int32) (x4 : Int32) (x5 : Int32) (δ : dp) (δp : dp), q_K h.1 a0 = 12 → 1 ≤ (x3).toInt → (x3).toInt ≤ 16 → 0 ≤ (x4).toInt → (x4).toInt ≤ (x5).toInt → (x5).toInt ≤ (x4).toInt + 2000 → (x5).toInt ≤ (q_I δ 12 36 a0).toInt → (q_I δ 12 36 a0).toInt ≤ 12000 → (1 < (x3).toInt → (q_I δ 12 36 a0).toInt ≤ 10000) → (2 < (x3).toInt → (q_I δ 12 36 a0).toInt ≤ 8000) → (4 < (x3).toInt → (q_I δ 12 36 a0).toInt ≤ 6000) → (8 < (x3).toInt → (q_I δ 12 36 a0).toInt ≤ 4000) → (x3).toInt < K → RI ad h.1 δ0 δ → AG ad a0 δ δp → ok2 (T a0 x1 x2 x3 x4 x5 δ) (T a0 x1 x2 x3 x4 x5 δp) (fun r rp => (RI ad h.1 δ0 r.2 ∧ (kp [(12, 36)] δ r.2 ∧ q_V r.2 = q_V δ ∧ kr ad [119] δ r.2) ∧ (q_I r.2 12 36 a0).toInt = (q_I δ 12 36 a0).toInt ∧ 1 ≤ (r.1).toInt ∧ (r.1).toInt ≤ 4 * (x3).toInt - 3) ∧ AG ad a0 r.2 rp.2 ∧ rp.1 = r.1)) {a0 : Nat} {x1 : Int32} {x2 : Int32} {x3 : Int32} {x4 : Int32} {xs0 : Int32} {x8v : Int32} (k_a0 : q_K h.1 a0 = 12) {δ δp : dp} (z0 : 2 ≤ (x2).toInt) (z1 : (x2).toInt ≤ 16) (z2 : 0 ≤ (x3).toInt) (z3 : (x3).toInt ≤ (x4).toInt) (z4 : (x4).toInt ≤ (x3).toInt + 2000) (z5 : (x4).toInt ≤ (q_I δ 12 36 a0).toInt) (z6 : (q_I δ 12 36 a0).toInt ≤ 12000) (z7 : 1 < (x2).toInt → (q_I δ 12 36 a0).toInt ≤ 10000) (z8 : 2 < (x2).toInt → (q_I δ 12 36 a0).toInt ≤ 8000) (z9 : 4 < (x2).toInt → (q_I δ 12 36 a0).toInt ≤ 6000) (z10 : 8 < (x2).toInt → (q_I δ 12 36 a0).toInt ≤ 4000) (z11 : (x2).toInt ≤ K) (z12 : (x3).toInt < (x4).toInt) (z13 : (x8v).toInt = 1 ∨ (x8v).toInt = 3) (I : RI ad h.1 δ0 δ) (A : AG ad a0 δ δp) : ok2 (J_X12_touchDrop_121 N h.1 T a0 x1 x2 x3 x4 xs0 x8v δ) (J_X12_touchDrop_121 N h.1 T a0 x1 x2 x3 x4 xs0 x8v δp) (fun r rp => (RI ad h.1 δ0 r.2 ∧ (kp [(12, 36)] δ r.2 ∧ q_V r.2 = q_V δ ∧ kr ad [119] δ r.2) ∧ (q_I r.2 12 36 a0).toInt = (q_I δ 12 36 a0).toInt ∧ 1 ≤ (r.1).toInt ∧ (r.1).toInt ≤ 4 * (x2).toInt - 3) ∧ AG ad a0 r.2 rp.2 ∧ rp.1 = r.1) := by
  unfold J_X12_touchDrop_121
  have f1 := ti_b x2
  have f2 := ti_b x3
  have f3 := ti_b x4
  have f4 := cb_12_36 I k_a0
  have f5 := ti_b x8v
  try rw [A.1]
  try rw [A.2.1]
  try rw [A.2.2.1]
  try rw [A.2.2.2.1]
  refine ok2_bind (v_X12_roomMany L hN (a0 := a0) (x1 := xs0) (x2 := x2) (x3 := x3) (x4 := x4) k_a0 (show 0 ≤ (x3).toInt by first | assumption | omega) (show (x3).toInt ≤ (x4).toInt by first | assumption | omega) (show (x4).toInt ≤ 14000 by first | assumption | omega) (show (x4).toInt ≤ (q_I δ 12 36 a0).toInt by first | assumption | omega) I A) (fun r6 r6p hr7 => ?_)
  obtain ⟨hq9, ha10, hb11⟩ := hr7
  try rw [hb11]
  try rw [ha10]
  have i8 := hq9
  try rw [i8]
  have f12 := ti_b r6.1
  refine ok2_ite (fun h13 => ?_) (fun h13 => ?_)
  · have c14 : r6.1.toInt = (0 : Int) := o_eq h13
    exact ok2_some (show (RI ad h.1 δ0 δ ∧ (kp [(12, 36)] δ δ ∧ q_V δ = q_V δ ∧ kr ad [119] δ δ) ∧ (q_I δ 12 36 a0).toInt = (q_I δ 12 36 a0).toInt ∧ 1 ≤ (x8v).toInt ∧ (x8v).toInt ≤ 4 * (x2).toInt - 3) ∧ AG ad a0 δ δp ∧ x8v = x8v from ⟨⟨I, ⟨kp_w (by decide) kp_r, rfl, kr_w (by decide) (kr_r (ad := ad))⟩, by first | assumption | omega, by first | assumption | omega, by first | assumption | omega⟩, A, rfl⟩)
  · have c15 : r6.1.toInt ≠ (0 : Int) := o_ne h13
    refine ok2_ite (fun h16 => ?_) (fun h16 => ?_)
    · have c17 : r6.1.toInt = (1 : Int) := o_eq h16
      refine ok2_bind (v_X12_isInside L hN (a0 := a0) (x1 := xs0) (x2 := x3) (x3 := x4) k_a0 (show 0 ≤ (x3).toInt by first | assumption | omega) (show (x3).toInt ≤ (x4).toInt by first | assumption | omega) (show (x4).toInt ≤ 14000 by first | assumption | omega) (show (x4).toInt ≤ (q_I δ 12 36 a0).toInt by first | assumption | omega) I A) (fun r18 r18p hr19 => ?_)
      obtain ⟨hq22, ha23, hb24⟩ := hr19
      try rw [hb24]
      try rw [ha23]
      obtain ⟨i20, p21⟩ := hq22
      try rw [i20]
      have f25 := bo_l p21
      have f26 := ti_b r18.1
      refine ok2_ite (fun h27 => ?_) (fun h27 => ?_)
      · have c28 : r18.1.toInt = (0 : Int) := o_eq h27
        unfold J_X12_touchDrop_165
        try rw [A.1]
        try rw [A.2.1]
        try rw [A.2.2.1]
        try rw [A.2.2.2.1]
        unfold J_X12_touchDrop_166
        try rw [A.1]
        try rw [A.2.1]
        try rw [A.2.2.1]
        try rw [A.2.2.2.1]
        refine ok2_bind (v_bX12_inRoom L hN (a0 := a0) (x1 := (1 : Int32)) (x2 := xs0) (x3 := x2) (x4 := x3) (x5 := x4) hT k_a0 (show 2 ≤ (x2).toInt by first | assumption | omega) (show (x2).toInt ≤ 16 by first | assumption | omega) (show 0 ≤ (x3).toInt by first | assumption | omega) (show (x3).toInt ≤ (x4).toInt by first | assumption | omega) (show (x4).toInt ≤ (x3).toInt + 2000 by first | assumption | omega) (show (x4).toInt ≤ (q_I δ 12 36 a0).toInt by first | assumption | omega) (show (q_I δ 12 36 a0).toInt ≤ 12000 by first | assumption | omega) (show 1 < (x2).toInt → (q_I δ 12 36 a0).toInt ≤ 10000 by first | assumption | omega) (show 2 < (x2).toInt → (q_I δ 12 36 a0).toInt ≤ 8000 by first | assumption | omega) (show 4 < (x2).toInt → (q_I δ 12 36 a0).toInt ≤ 6000 by first | assumption | omega) (show 8 < (x2).toInt → (q_I δ 12 36 a0).toInt ≤ 4000 by first | assumption | omega) (show (x2).toInt ≤ K by first | assumption | omega) I A) (fun r29 r29p hr30 => ?_)
        obtain ⟨hq36, ha37, hb38⟩ := hr30
        try rw [hb38]
        obtain ⟨i31, ⟨u39, u40, u41⟩, p32, p33, p34, p35⟩ := hq36
        have u42 := kp_t kp_r u39
        have v43 : q_V r29.2 = q_V δ := (u40).trans rfl
        have v44 := kr_t (kr_r (ad := ad)) u41
        try rw [ha37.1]
        try rw [ha37.2.1]
        try rw [ha37.2.2.1]
        try rw [ha37.2.2.2.1]
        have f45 := cb_12_36 i31 k_a0
        have f46 := ti_b r29.1
        have f47 := cb_12_12 I k_a0
        have f48 := ti_b r29.1
        refine ok2_ite (fun h49 => ?_) (fun h49 => ?_)
        · have c50 : (0 : Int) = (0 : Int) := o_eq h49
          unfold J_X12_touchDrop_202
          try rw [ha37.1]
          try rw [ha37.2.1]
          try rw [ha37.2.2.1]
          try rw [ha37.2.2.2.1]
          first | (have q52 := te_add x8v r29.1 (by omega) (by omega); obtain ⟨f53, f54, f55⟩ := q52) | (obtain ⟨q52, f53, f54, f55⟩ := ti_add x8v r29.1)
          first | (have q57 := te_addc (c := 0) (n := 0) rfl (x8v + r29.1) (by omega) (by omega); obtain ⟨f58, f59, f60⟩ := q57) | (obtain ⟨q57, f58, f59, f60⟩ := ti_addc (c := 0) (n := 0) rfl (x8v + r29.1))
          exact ok2_some (show (RI ad h.1 δ0 r29.2 ∧ (kp [(12, 36)] δ r29.2 ∧ q_V r29.2 = q_V δ ∧ kr ad [119] δ r29.2) ∧ (q_I r29.2 12 36 a0).toInt = (q_I δ 12 36 a0).toInt ∧ 1 ≤ (((x8v + r29.1) + (0 : Int32))).toInt ∧ (((x8v + r29.1) + (0 : Int32))).toInt ≤ 4 * (x2).toInt - 3) ∧ AG ad a0 r29.2 r29p.2 ∧ ((x8v + r29.1) + (0 : Int32)) = ((x8v + r29.1) + (0 : Int32)) from ⟨⟨i31, ⟨kp_w (by decide) u42, v43, kr_w (by decide) v44⟩, by first | assumption | omega, by first | assumption | omega, by first | assumption | omega⟩, ha37, rfl⟩)
        · have c61 : (0 : Int) ≠ (0 : Int) := o_ne h49
          refine ok2_bind (v_bX12_inList L hN (a0 := a0) (x1 := (1 : Int32)) (x2 := xs0) (x3 := x2) (x4 := x3) (x5 := x4) hT k_a0 (show 2 ≤ (x2).toInt by first | assumption | omega) (show (x2).toInt ≤ 16 by first | assumption | omega) (show 0 ≤ (x3).toInt by first | assumption | omega) (show (x3).toInt ≤ (x4).toInt by first | assumption | omega) (show (x4).toInt ≤ (x3).toInt + 2000 by first | assumption | omega) (show (x4).toInt ≤ (q_I r29.2 12 36 a0).toInt by first | assumption | omega) (show (q_I r29.2 12 36 a0).toInt ≤ 12000 by first | assumption | omega) (show 1 < (x2).toInt → (q_I r29.2 12 36 a0).toInt ≤ 10000 by first | assumption | omega) (show 2 < (x2).toInt → (q_I r29.2 12 36 a0).toInt ≤ 8000 by first | assumption | omega) (show 4 < (x2).toInt → (q_I r29.2 12 36 a0).toInt ≤ 6000 by first | assumption | omega) (show 8 < (x2).toInt → (q_I r29.2 12 36 a0).toInt ≤ 4000 by first | assumption | omega) (show (x2).toInt ≤ K by first | assumption | omega) i31 ha37) (fun r62 r62p hr63 => ?_)
          obtain ⟨hq69, ha70, hb71⟩ := hr63
          try rw [hb71]
          obtain ⟨i64, ⟨u72, u73, u74⟩, p65, p66, p67, p68⟩ := hq69
          have u75 := kp_t u42 u72
          have v76 : q_V r62.2 = q_V δ := (u73).trans v43
          have v77 := kr_t v44 u74
          try rw [ha70.1]
          try rw [ha70.2.1]
          try rw [ha70.2.2.1]
          try rw [ha70.2.2.2.1]
          have f78 := cb_12_36 i64 k_a0
          have f79 := ti_b r62.1
          have f80 := cb_12_12 i31 k_a0
          have f81 : (q_I r29.2 12 12 a0).toInt = (q_I δ 12 12 a0).toInt := congrArg Int32.toInt (u39 12 12 a0 (by decide))
          have f82 := ti_b r62.1
          unfold J_X12_touchDrop_202
          try rw [ha70.1]
          try rw [ha70.2.1]
          try rw [ha70.2.2.1]
          try rw [ha70.2.2.2.1]
          first | (have q84 := te_add x8v r29.1 (by omega) (by omega); obtain ⟨f85, f86, f87⟩ := q84) | (obtain ⟨q84, f85, f86, f87⟩ := ti_add x8v r29.1)
          first | (have q89 := te_add (x8v + r29.1) r62.1 (by omega) (by omega); obtain ⟨f90, f91, f92⟩ := q89) | (obtain ⟨q89, f90, f91, f92⟩ := ti_add (x8v + r29.1) r62.1)
          exact ok2_some (show (RI ad h.1 δ0 r62.2 ∧ (kp [(12, 36)] δ r62.2 ∧ q_V r62.2 = q_V δ ∧ kr ad [119] δ r62.2) ∧ (q_I r62.2 12 36 a0).toInt = (q_I δ 12 36 a0).toInt ∧ 1 ≤ (((x8v + r29.1) + r62.1)).toInt ∧ (((x8v + r29.1) + r62.1)).toInt ≤ 4 * (x2).toInt - 3) ∧ AG ad a0 r62.2 r62p.2 ∧ ((x8v + r29.1) + r62.1) = ((x8v + r29.1) + r62.1) from ⟨⟨i64, ⟨kp_w (by decide) u75, v76, kr_w (by decide) v77⟩, by first | assumption | omega, by first | assumption | omega, by first | assumption | omega⟩, ha70, rfl⟩)
      · have c93 : r18.1.toInt ≠ (0 : Int) := o_ne h27
        unfold J_X12_touchDrop_166
        try rw [A.1]
        try rw [A.2.1]
        try rw [A.2.2.1]
        try rw [A.2.2.2.1]
        refine ok2_bind (v_bX12_inRoom L hN (a0 := a0) (x1 := (1 : Int32)) (x2 := xs0) (x3 := x2) (x4 := x3) (x5 := x4) hT k_a0 (show 2 ≤ (x2).toInt by first | assumption | omega) (show (x2).toInt ≤ 16 by first | assumption | omega) (show 0 ≤ (x3).toInt by first | assumption | omega) (show (x3).toInt ≤ (x4).toInt by first | assumption | omega) (show (x4).toInt ≤ (x3).toInt + 2000 by first | assumption | omega) (show (x4).toInt ≤ (q_I δ 12 36 a0).toInt by first | assumption | omega) (show (q_I δ 12 36 a0).toInt ≤ 12000 by first | assumption | omega) (show 1 < (x2).toInt → (q_I δ 12 36 a0).toInt ≤ 10000 by first | assumption | omega) (show 2 < (x2).toInt → (q_I δ 12 36 a0).toInt ≤ 8000 by first | assumption | omega) (show 4 < (x2).toInt → (q_I δ 12 36 a0).toInt ≤ 6000 by first | assumption | omega) (show 8 < (x2).toInt → (q_I δ 12 36 a0).toInt ≤ 4000 by first | assumption | omega) (show (x2).toInt ≤ K by first | assumption | omega) I A) (fun r94 r94p hr95 => ?_)
        obtain ⟨hq101, ha102, hb103⟩ := hr95
        try rw [hb103]
        obtain ⟨i96, ⟨u104, u105, u106⟩, p97, p98, p99, p100⟩ := hq101
        have u107 := kp_t kp_r u104
        have v108 : q_V r94.2 = q_V δ := (u105).trans rfl
        have v109 := kr_t (kr_r (ad := ad)) u106
        try rw [ha102.1]
        try rw [ha102.2.1]
        try rw [ha102.2.2.1]
        try rw [ha102.2.2.2.1]
        have f110 := cb_12_36 i96 k_a0
        have f111 := ti_b r94.1
        have f112 := cb_12_12 I k_a0
        have f113 := ti_b r94.1
        refine ok2_ite (fun h114 => ?_) (fun h114 => ?_)
        · have c115 : (1 : Int) = (0 : Int) := o_eq h114
          unfold J_X12_touchDrop_202
          try rw [ha102.1]
          try rw [ha102.2.1]
          try rw [ha102.2.2.1]
          try rw [ha102.2.2.2.1]
          first | (have q117 := te_add x8v r94.1 (by omega) (by omega); obtain ⟨f118, f119, f120⟩ := q117) | (obtain ⟨q117, f118, f119, f120⟩ := ti_add x8v r94.1)
          first | (have q122 := te_addc (c := 0) (n := 0) rfl (x8v + r94.1) (by omega) (by omega); obtain ⟨f123, f124, f125⟩ := q122) | (obtain ⟨q122, f123, f124, f125⟩ := ti_addc (c := 0) (n := 0) rfl (x8v + r94.1))
          exact ok2_some (show (RI ad h.1 δ0 r94.2 ∧ (kp [(12, 36)] δ r94.2 ∧ q_V r94.2 = q_V δ ∧ kr ad [119] δ r94.2) ∧ (q_I r94.2 12 36 a0).toInt = (q_I δ 12 36 a0).toInt ∧ 1 ≤ (((x8v + r94.1) + (0 : Int32))).toInt ∧ (((x8v + r94.1) + (0 : Int32))).toInt ≤ 4 * (x2).toInt - 3) ∧ AG ad a0 r94.2 r94p.2 ∧ ((x8v + r94.1) + (0 : Int32)) = ((x8v + r94.1) + (0 : Int32)) from ⟨⟨i96, ⟨kp_w (by decide) u107, v108, kr_w (by decide) v109⟩, by first | assumption | omega, by first | assumption | omega, by first | assumption | omega⟩, ha102, rfl⟩)
        · have c126 : (1 : Int) ≠ (0 : Int) := o_ne h114
          refine ok2_bind (v_bX12_inList L hN (a0 := a0) (x1 := (1 : Int32)) (x2 := xs0) (x3 := x2) (x4 := x3) (x5 := x4) hT k_a0 (show 2 ≤ (x2).toInt by first | assumption | omega) (show (x2).toInt ≤ 16 by first | assumption | omega) (show 0 ≤ (x3).toInt by first | assumption | omega) (show (x3).toInt ≤ (x4).toInt by first | assumption | omega) (show (x4).toInt ≤ (x3).toInt + 2000 by first | assumption | omega) (show (x4).toInt ≤ (q_I r94.2 12 36 a0).toInt by first | assumption | omega) (show (q_I r94.2 12 36 a0).toInt ≤ 12000 by first | assumption | omega) (show 1 < (x2).toInt → (q_I r94.2 12 36 a0).toInt ≤ 10000 by first | assumption | omega) (show 2 < (x2).toInt → (q_I r94.2 12 36 a0).toInt ≤ 8000 by first | assumption | omega) (show 4 < (x2).toInt → (q_I r94.2 12 36 a0).toInt ≤ 6000 by first | assumption | omega) (show 8 < (x2).toInt → (q_I r94.2 12 36 a0).toInt ≤ 4000 by first | assumption | omega) (show (x2).toInt ≤ K by first | assumption | omega) i96 ha102) (fun r127 r127p hr128 => ?_)
          obtain ⟨hq134, ha135, hb136⟩ := hr128
          try rw [hb136]
          obtain ⟨i129, ⟨u137, u138, u139⟩, p130, p131, p132, p133⟩ := hq134
          have u140 := kp_t u107 u137
          have v141 : q_V r127.2 = q_V δ := (u138).trans v108
          have v142 := kr_t v109 u139
          try rw [ha135.1]
          try rw [ha135.2.1]
          try rw [ha135.2.2.1]
          try rw [ha135.2.2.2.1]
          have f143 := cb_12_36 i129 k_a0
          have f144 := ti_b r127.1
          have f145 := cb_12_12 i96 k_a0
          have f146 : (q_I r94.2 12 12 a0).toInt = (q_I δ 12 12 a0).toInt := congrArg Int32.toInt (u104 12 12 a0 (by decide))
          have f147 := ti_b r127.1
          unfold J_X12_touchDrop_202
          try rw [ha135.1]
          try rw [ha135.2.1]
          try rw [ha135.2.2.1]
          try rw [ha135.2.2.2.1]
          first | (have q149 := te_add x8v r94.1 (by omega) (by omega); obtain ⟨f150, f151, f152⟩ := q149) | (obtain ⟨q149, f150, f151, f152⟩ := ti_add x8v r94.1)
          first | (have q154 := te_add (x8v + r94.1) r127.1 (by omega) (by omega); obtain ⟨f155, f156, f157⟩ := q154) | (obtain ⟨q154, f155, f156, f157⟩ := ti_add (x8v + r94.1) r127.1)
          exact ok2_some (show (RI ad h.1 δ0 r127.2 ∧ (kp [(12, 36)] δ r127.2 ∧ q_V r127.2 = q_V δ ∧ kr ad [119] δ r127.2) ∧ (q_I r127.2 12 36 a0).toInt = (q_I δ 12 36 a0).toInt ∧ 1 ≤ (((x8v + r94.1) + r127.1)).toInt ∧ (((x8v + r94.1) + r127.1)).toInt ≤ 4 * (x2).toInt - 3) ∧ AG ad a0 r127.2 r127p.2 ∧ ((x8v + r94.1) + r127.1) = ((x8v + r94.1) + r127.1) from ⟨⟨i129, ⟨kp_w (by decide) u140, v141, kr_w (by decide) v142⟩, by first | assumption | omega, by first | assumption | omega, by first | assumption | omega⟩, ha135, rfl⟩)
    · have c158 : r6.1.toInt ≠ (1 : Int) := o_ne h16
      unfold J_X12_touchDrop_165
      try rw [A.1]
      try rw [A.2.1]
      try rw [A.2.2.1]
      try rw [A.2.2.2.1]
      unfold J_X12_touchDrop_166
      try rw [A.1]
      try rw [A.2.1]
      try rw [A.2.2.1]
      try rw [A.2.2.2.1]
      refine ok2_bind (v_bX12_inRoom L hN (a0 := a0) (x1 := (1 : Int32)) (x2 := xs0) (x3 := x2) (x4 := x3) (x5 := x4) hT k_a0 (show 2 ≤ (x2).toInt by first | assumption | omega) (show (x2).toInt ≤ 16 by first | assumption | omega) (show 0 ≤ (x3).toInt by first | assumption | omega) (show (x3).toInt ≤ (x4).toInt by first | assumption | omega) (show (x4).toInt ≤ (x3).toInt + 2000 by first | assumption | omega) (show (x4).toInt ≤ (q_I δ 12 36 a0).toInt by first | assumption | omega) (show (q_I δ 12 36 a0).toInt ≤ 12000 by first | assumption | omega) (show 1 < (x2).toInt → (q_I δ 12 36 a0).toInt ≤ 10000 by first | assumption | omega) (show 2 < (x2).toInt → (q_I δ 12 36 a0).toInt ≤ 8000 by first | assumption | omega) (show 4 < (x2).toInt → (q_I δ 12 36 a0).toInt ≤ 6000 by first | assumption | omega) (show 8 < (x2).toInt → (q_I δ 12 36 a0).toInt ≤ 4000 by first | assumption | omega) (show (x2).toInt ≤ K by first | assumption | omega) I A) (fun r159 r159p hr160 => ?_)
      obtain ⟨hq166, ha167, hb168⟩ := hr160
      try rw [hb168]
      obtain ⟨i161, ⟨u169, u170, u171⟩, p162, p163, p164, p165⟩ := hq166
      have u172 := kp_t kp_r u169
      have v173 : q_V r159.2 = q_V δ := (u170).trans rfl
      have v174 := kr_t (kr_r (ad := ad)) u171
      try rw [ha167.1]
      try rw [ha167.2.1]
      try rw [ha167.2.2.1]
      try rw [ha167.2.2.2.1]
      have f175 := cb_12_36 i161 k_a0
      have f176 := ti_b r159.1
      have f177 := cb_12_12 I k_a0
      have f178 := ti_b r159.1
      refine ok2_ite (fun h179 => ?_) (fun h179 => ?_)
      · have c180 : (0 : Int) = (0 : Int) := o_eq h179
        unfold J_X12_touchDrop_202
        try rw [ha167.1]
        try rw [ha167.2.1]
        try rw [ha167.2.2.1]
        try rw [ha167.2.2.2.1]
        first | (have q182 := te_add x8v r159.1 (by omega) (by omega); obtain ⟨f183, f184, f185⟩ := q182) | (obtain ⟨q182, f183, f184, f185⟩ := ti_add x8v r159.1)
        first | (have q187 := te_addc (c := 0) (n := 0) rfl (x8v + r159.1) (by omega) (by omega); obtain ⟨f188, f189, f190⟩ := q187) | (obtain ⟨q187, f188, f189, f190⟩ := ti_addc (c := 0) (n := 0) rfl (x8v + r159.1))
        exact ok2_some (show (RI ad h.1 δ0 r159.2 ∧ (kp [(12, 36)] δ r159.2 ∧ q_V r159.2 = q_V δ ∧ kr ad [119] δ r159.2) ∧ (q_I r159.2 12 36 a0).toInt = (q_I δ 12 36 a0).toInt ∧ 1 ≤ (((x8v + r159.1) + (0 : Int32))).toInt ∧ (((x8v + r159.1) + (0 : Int32))).toInt ≤ 4 * (x2).toInt - 3) ∧ AG ad a0 r159.2 r159p.2 ∧ ((x8v + r159.1) + (0 : Int32)) = ((x8v + r159.1) + (0 : Int32)) from ⟨⟨i161, ⟨kp_w (by decide) u172, v173, kr_w (by decide) v174⟩, by first | assumption | omega, by first | assumption | omega, by first | assumption | omega⟩, ha167, rfl⟩)
      · have c191 : (0 : Int) ≠ (0 : Int) := o_ne h179
        refine ok2_bind (v_bX12_inList L hN (a0 := a0) (x1 := (1 : Int32)) (x2 := xs0) (x3 := x2) (x4 := x3) (x5 := x4) hT k_a0 (show 2 ≤ (x2).toInt by first | assumption | omega) (show (x2).toInt ≤ 16 by first | assumption | omega) (show 0 ≤ (x3).toInt by first | assumption | omega) (show (x3).toInt ≤ (x4).toInt by first | assumption | omega) (show (x4).toInt ≤ (x3).toInt + 2000 by first | assumption | omega) (show (x4).toInt ≤ (q_I r159.2 12 36 a0).toInt by first | assumption | omega) (show (q_I r159.2 12 36 a0).toInt ≤ 12000 by first | assumption | omega) (show 1 < (x2).toInt → (q_I r159.2 12 36 a0).toInt ≤ 10000 by first | assumption | omega) (show 2 < (x2).toInt → (q_I r159.2 12 36 a0).toInt ≤ 8000 by first | assumption | omega) (show 4 < (x2).toInt → (q_I r159.2 12 36 a0).toInt ≤ 6000 by first | assumption | omega) (show 8 < (x2).toInt → (q_I r159.2 12 36 a0).toInt ≤ 4000 by first | assumption | omega) (show (x2).toInt ≤ K by first | assumption | omega) i161 ha167) (fun r192 r192p hr193 => ?_)
        obtain ⟨hq199, ha200, hb201⟩ := hr193
        try rw [hb201]
        obtain ⟨i194, ⟨u202, u203, u204⟩, p195, p196, p197, p198⟩ := hq199
        have u205 := kp_t u172 u202
        have v206 : q_V r192.2 = q_V δ := (u203).trans v173
        have v207 := kr_t v174 u204
        try rw [ha200.1]
        try rw [ha200.2.1]
        try rw [ha200.2.2.1]
        try rw [ha200.2.2.2.1]
        have f208 := cb_12_36 i194 k_a0
        have f209 := ti_b r192.1
        have f210 := cb_12_12 i161 k_a0
        have f211 : (q_I r159.2 12 12 a0).toInt = (q_I δ 12 12 a0).toInt := congrArg Int32.toInt (u169 12 12 a0 (by decide))
        have f212 := ti_b r192.1
        unfold J_X12_touchDrop_202
        try rw [ha200.1]
        try rw [ha200.2.1]
        try rw [ha200.2.2.1]
        try rw [ha200.2.2.2.1]
        first | (have q214 := te_add x8v r159.1 (by omega) (by omega); obtain ⟨f215, f216, f217⟩ := q214) | (obtain ⟨q214, f215, f216, f217⟩ := ti_add x8v r159.1)
        first | (have q219 := te_add (x8v + r159.1) r192.1 (by omega) (by omega); obtain ⟨f220, f221, f222⟩ := q219) | (obtain ⟨q219, f220, f221, f222⟩ := ti_add (x8v + r159.1) r192.1)
        exact ok2_some (show (RI ad h.1 δ0 r192.2 ∧ (kp [(12, 36)] δ r192.2 ∧ q_V r192.2 = q_V δ ∧ kr ad [119] δ r192.2) ∧ (q_I r192.2 12 36 a0).toInt = (q_I δ 12 36 a0).toInt ∧ 1 ≤ (((x8v + r159.1) + r192.1)).toInt ∧ (((x8v + r159.1) + r192.1)).toInt ≤ 4 * (x2).toInt - 3) ∧ AG ad a0 r192.2 r192p.2 ∧ ((x8v + r159.1) + r192.1) = ((x8v + r159.1) + r192.1) from ⟨⟨i194, ⟨kp_w (by decide) u205, v206, kr_w (by decide) v207⟩, by first | assumption | omega, by first | assumption | omega, by first | assumption | omega⟩, ha200, rfl⟩)
set_option maxHeartbeats 4000000 in
theorem vj_X12_touchDrop_36 {ad : List Nat} {h : hp} (L : Lay TLx ad h) {δ0 : dp} {N : Nat} (hN : 10000000 ≤ N) {T : Nat → Int32 → Int32 → Int32 → Int32 → Int32 → dp → Option (Int32 × dp)} {K : Int} (hT : ∀ (a0 : Nat) (x1 : Int32) (x2 : Int32) (x3 : Int32) (x4 : Int32) (x5 : Int32) (δ : dp) (δp : dp), q_K h.1 a0 = 12 → 1 ≤ (x3).toInt → (x3).toInt ≤ 16 → 0 ≤ (x4).toInt → (x4).toInt ≤ (x5).toInt → (x5).toInt ≤ (x4).toInt + 2000 → (x5).toInt ≤ (q_I δ 12 36 a0).toInt → (q_I δ 12 36 a0).toInt ≤ 12000 → (1 < (x3).toInt → (q_I δ 12 36 a0).toInt ≤ 10000) → (2 < (x3).toInt → (q_I δ 12 36 a0).toInt ≤ 8000) → (4 < (x3).toInt → (q_I δ 12 36 a0).toInt ≤ 6000) → (8 < (x3).toInt → (q_I δ 12 36 a0).toInt ≤ 4000) → (x3).toInt < K → RI ad h.1 δ0 δ → AG ad a0 δ δp → ok2 (T a0 x1 x2 x3 x4 x5 δ) (T a0 x1 x2 x3 x4 x5 δp) (fun r rp => (RI ad h.1 δ0 r.2 ∧ (kp [(12, 36)] δ r.2 ∧ q_V r.2 = q_V δ ∧ kr ad [119] δ r.2) ∧ (q_I r.2 12 36 a0).toInt = (q_I δ 12 36 a0).toInt ∧ 1 ≤ (r.1).toInt ∧ (r.1).toInt ≤ 4 * (x3).toInt - 3) ∧ AG ad a0 r.2 rp.2 ∧ rp.1 = r.1)) {a0 : Nat} {x1 : Int32} {x2 : Int32} {x3 : Int32} {x4 : Int32} {xs0 : Int32} {x5v : Int32} {x6v : Int32} (k_a0 : q_K h.1 a0 = 12) {δ δp : dp} (z0 : 2 ≤ (x2).toInt) (z1 : (x2).toInt ≤ 16) (z2 : 0 ≤ (x3).toInt) (z3 : (x3).toInt ≤ (x4).toInt) (z4 : (x4).toInt ≤ (x3).toInt + 2000) (z5 : (x4).toInt ≤ (q_I δ 12 36 a0).toInt) (z6 : (q_I δ 12 36 a0).toInt ≤ 12000) (z7 : 1 < (x2).toInt → (q_I δ 12 36 a0).toInt ≤ 10000) (z8 : 2 < (x2).toInt → (q_I δ 12 36 a0).toInt ≤ 8000) (z9 : 4 < (x2).toInt → (q_I δ 12 36 a0).toInt ≤ 6000) (z10 : 8 < (x2).toInt → (q_I δ 12 36 a0).toInt ≤ 4000) (z11 : (x2).toInt ≤ K) (z12 : (x3).toInt < (x4).toInt) (z13 : (xs0).toInt = 0 ∨ (xs0).toInt = 1) (I : RI ad h.1 δ0 δ) (A : AG ad a0 δ δp) : ok2 (J_X12_touchDrop_36 N h.1 T a0 x1 x2 x3 x4 xs0 x5v x6v δ) (J_X12_touchDrop_36 N h.1 T a0 x1 x2 x3 x4 xs0 x5v x6v δp) (fun r rp => (RI ad h.1 δ0 r.2 ∧ (kp [(12, 36)] δ r.2 ∧ q_V r.2 = q_V δ ∧ kr ad [119] δ r.2) ∧ (q_I r.2 12 36 a0).toInt = (q_I δ 12 36 a0).toInt ∧ 1 ≤ (r.1).toInt ∧ (r.1).toInt ≤ 4 * (x2).toInt - 3) ∧ AG ad a0 r.2 rp.2 ∧ rp.1 = r.1) := by
  unfold J_X12_touchDrop_36
  have f1 := ti_b x2
  have f2 := ti_b x3
  have f3 := ti_b x4
  have f4 := cb_12_36 I k_a0
  have f5 := ti_b xs0
  try rw [A.1]
  try rw [A.2.1]
  try rw [A.2.2.1]
  try rw [A.2.2.2.1]
  have f6 := ti_b x1
  have f7 := ti_b x5v
  refine ok2_ite (fun h8 => ?_) (fun h8 => ?_)
  · have c9 : x1.toInt < x5v.toInt := o_lt h8
    unfold J_X12_touchDrop_71
    try rw [A.1]
    try rw [A.2.1]
    try rw [A.2.2.1]
    try rw [A.2.2.2.1]
    exact ok2_some (show (RI ad h.1 δ0 δ ∧ (kp [(12, 36)] δ δ ∧ q_V δ = q_V δ ∧ kr ad [119] δ δ) ∧ (q_I δ 12 36 a0).toInt = (q_I δ 12 36 a0).toInt ∧ 1 ≤ (1 : Int) ∧ (1 : Int) ≤ 4 * (x2).toInt - 3) ∧ AG ad a0 δ δp ∧ (1 : Int32) = (1 : Int32) from ⟨⟨I, ⟨kp_w (by decide) kp_r, rfl, kr_w (by decide) (kr_r (ad := ad))⟩, by first | assumption | omega, by first | assumption | omega, by first | assumption | omega⟩, A, rfl⟩)
  · have c10 : x5v.toInt ≤ x1.toInt := o_nlt h8
    have f11 := ti_b x6v
    refine ok2_ite (fun h12 => ?_) (fun h12 => ?_)
    · have c13 : x6v.toInt < x1.toInt := o_lt h12
      unfold J_X12_touchDrop_71
      try rw [A.1]
      try rw [A.2.1]
      try rw [A.2.2.1]
      try rw [A.2.2.2.1]
      exact ok2_some (show (RI ad h.1 δ0 δ ∧ (kp [(12, 36)] δ δ ∧ q_V δ = q_V δ ∧ kr ad [119] δ δ) ∧ (q_I δ 12 36 a0).toInt = (q_I δ 12 36 a0).toInt ∧ 1 ≤ (1 : Int) ∧ (1 : Int) ≤ 4 * (x2).toInt - 3) ∧ AG ad a0 δ δp ∧ (1 : Int32) = (1 : Int32) from ⟨⟨I, ⟨kp_w (by decide) kp_r, rfl, kr_w (by decide) (kr_r (ad := ad))⟩, by first | assumption | omega, by first | assumption | omega, by first | assumption | omega⟩, A, rfl⟩)
    · have c14 : x1.toInt ≤ x6v.toInt := o_nlt h12
      first | (have q16 := te_sub x4 x3 (by omega) (by omega); obtain ⟨f17, f18, f19⟩ := q16) | (obtain ⟨q16, f17, f18, f19⟩ := ti_sub x4 x3)
      refine ok2_ite (fun h20 => ?_) (fun h20 => ?_)
      · have c21 : (x4 - x3).toInt = (1 : Int) := o_eq h20
        unfold J_X12_touchDrop_71
        try rw [A.1]
        try rw [A.2.1]
        try rw [A.2.2.1]
        try rw [A.2.2.2.1]
        exact ok2_some (show (RI ad h.1 δ0 δ ∧ (kp [(12, 36)] δ δ ∧ q_V δ = q_V δ ∧ kr ad [119] δ δ) ∧ (q_I δ 12 36 a0).toInt = (q_I δ 12 36 a0).toInt ∧ 1 ≤ (1 : Int) ∧ (1 : Int) ≤ 4 * (x2).toInt - 3) ∧ AG ad a0 δ δp ∧ (1 : Int32) = (1 : Int32) from ⟨⟨I, ⟨kp_w (by decide) kp_r, rfl, kr_w (by decide) (kr_r (ad := ad))⟩, by first | assumption | omega, by first | assumption | omega, by first | assumption | omega⟩, A, rfl⟩)
      · have c22 : (x4 - x3).toInt ≠ (1 : Int) := o_ne h20
        refine ok2_ite (fun h23 => ?_) (fun h23 => ?_)
        · have c24 : xs0.toInt = (0 : Int) := o_eq h23
          unfold J_X12_touchDrop_73
          try rw [A.1]
          try rw [A.2.1]
          try rw [A.2.2.1]
          try rw [A.2.2.2.1]
          refine ok2_ite (fun h25 => ?_) (fun h25 => ?_)
          · have c26 : xs0.toInt = (0 : Int) := o_eq h25
            unfold J_X12_touchDrop_83
            try rw [A.1]
            try rw [A.2.1]
            try rw [A.2.2.1]
            try rw [A.2.2.2.1]
            refine ok2_ite (fun h27 => ?_) (fun h27 => ?_)
            · have c28 : x1.toInt = x5v.toInt := o_eq h27
              obtain ⟨b29, o30, k31, n32, w33⟩ := gO_12_35 L k_a0
              obtain rfl := gS_12_35 L k_a0 o30
              refine ok2_at o30 ?_
              first | (have q35 := te_addc (c := 1) (n := 1) rfl x3 (by omega) (by omega); obtain ⟨f36, f37, f38⟩ := q35) | (obtain ⟨q35, f36, f37, f38⟩ := ti_addc (c := 1) (n := 1) rfl x3)
              have t39 := ti_tn (x3 + (1 : Int32))
              refine ok2_gd (fun hc40 => ?_) ?_
              · rcases hc40 with hc40 | hc40
                · have c41 : (x3 + (1 : Int32)).toInt < (0 : Int) := o_lt hc40
                  omega
                · omega
              have hq42 : q_R δp (Ad ad 119) (x3 + (1 : Int32)).toNatClampNeg = q_R δ (Ad ad 119) (x3 + (1 : Int32)).toNatClampNeg := A.2.2.2.2 _ (by omega)
              try rw [hq42]
              refine ok2_mono (vj_X12_touchDrop_121 L hN (a0 := a0) (x1 := x1) (x2 := x2) (x3 := x3) (x4 := x4) (xs0 := (q_R δ (Ad ad 119) (x3 + (1 : Int32)).toNatClampNeg)) (x8v := (1 : Int32)) hT k_a0 (show 2 ≤ (x2).toInt by first | assumption | omega) (show (x2).toInt ≤ 16 by first | assumption | omega) (show 0 ≤ (x3).toInt by first | assumption | omega) (show (x3).toInt ≤ (x4).toInt by first | assumption | omega) (show (x4).toInt ≤ (x3).toInt + 2000 by first | assumption | omega) (show (x4).toInt ≤ (q_I δ 12 36 a0).toInt by first | assumption | omega) (show (q_I δ 12 36 a0).toInt ≤ 12000 by first | assumption | omega) (show 1 < (x2).toInt → (q_I δ 12 36 a0).toInt ≤ 10000 by first | assumption | omega) (show 2 < (x2).toInt → (q_I δ 12 36 a0).toInt ≤ 8000 by first | assumption | omega) (show 4 < (x2).toInt → (q_I δ 12 36 a0).toInt ≤ 6000 by first | assumption | omega) (show 8 < (x2).toInt → (q_I δ 12 36 a0).toInt ≤ 4000 by first | assumption | omega) (show (x2).toInt ≤ K by first | assumption | omega) (show (x3).toInt < (x4).toInt by first | assumption | omega) (show (1 : Int) = 1 ∨ (1 : Int) = 3 by first | assumption | omega) I A) (fun r43 r43p hr44 => ?_)
              obtain ⟨hq49, ha50, hb51⟩ := hr44
              obtain ⟨i45, ⟨u52, u53, u54⟩, p46, p47, p48⟩ := hq49
              have u55 := kp_t kp_r u52
              have v56 : q_V r43.2 = q_V δ := (u53).trans rfl
              have v57 := kr_t (kr_r (ad := ad)) u54
              have f58 := cb_12_36 i45 k_a0
              have f59 := ti_b r43.1
              have f60 := ti_b r43.1
              exact ⟨⟨by assumption, ⟨kp_w (by decide) u55, v56, kr_w (by decide) v57⟩, by first | assumption | omega, by first | assumption | omega, by first | assumption | omega⟩, ha50, hb51⟩
            · have c61 : x1.toInt ≠ x5v.toInt := o_ne h27
              refine ok2_ite (fun h62 => ?_) (fun h62 => ?_)
              · have c63 : x1.toInt = x6v.toInt := o_eq h62
                obtain ⟨b64, o65, k66, n67, w68⟩ := gO_12_35 L k_a0
                obtain rfl := gS_12_35 L k_a0 o65
                refine ok2_at o65 ?_
                first | (have q70 := te_subc (c := 2) (n := 2) rfl x4 (by omega) (by omega); obtain ⟨f71, f72, f73⟩ := q70) | (obtain ⟨q70, f71, f72, f73⟩ := ti_subc (c := 2) (n := 2) rfl x4)
                have t74 := ti_tn (x4 - (2 : Int32))
                refine ok2_gd (fun hc75 => ?_) ?_
                · rcases hc75 with hc75 | hc75
                  · have c76 : (x4 - (2 : Int32)).toInt < (0 : Int) := o_lt hc75
                    omega
                  · omega
                have hq77 : q_R δp (Ad ad 119) (x4 - (2 : Int32)).toNatClampNeg = q_R δ (Ad ad 119) (x4 - (2 : Int32)).toNatClampNeg := A.2.2.2.2 _ (by omega)
                try rw [hq77]
                refine ok2_mono (vj_X12_touchDrop_121 L hN (a0 := a0) (x1 := x1) (x2 := x2) (x3 := x3) (x4 := x4) (xs0 := (q_R δ (Ad ad 119) (x4 - (2 : Int32)).toNatClampNeg)) (x8v := (1 : Int32)) hT k_a0 (show 2 ≤ (x2).toInt by first | assumption | omega) (show (x2).toInt ≤ 16 by first | assumption | omega) (show 0 ≤ (x3).toInt by first | assumption | omega) (show (x3).toInt ≤ (x4).toInt by first | assumption | omega) (show (x4).toInt ≤ (x3).toInt + 2000 by first | assumption | omega) (show (x4).toInt ≤ (q_I δ 12 36 a0).toInt by first | assumption | omega) (show (q_I δ 12 36 a0).toInt ≤ 12000 by first | assumption | omega) (show 1 < (x2).toInt → (q_I δ 12 36 a0).toInt ≤ 10000 by first | assumption | omega) (show 2 < (x2).toInt → (q_I δ 12 36 a0).toInt ≤ 8000 by first | assumption | omega) (show 4 < (x2).toInt → (q_I δ 12 36 a0).toInt ≤ 6000 by first | assumption | omega) (show 8 < (x2).toInt → (q_I δ 12 36 a0).toInt ≤ 4000 by first | assumption | omega) (show (x2).toInt ≤ K by first | assumption | omega) (show (x3).toInt < (x4).toInt by first | assumption | omega) (show (1 : Int) = 1 ∨ (1 : Int) = 3 by first | assumption | omega) I A) (fun r78 r78p hr79 => ?_)
                obtain ⟨hq84, ha85, hb86⟩ := hr79
                obtain ⟨i80, ⟨u87, u88, u89⟩, p81, p82, p83⟩ := hq84
                have u90 := kp_t kp_r u87
                have v91 : q_V r78.2 = q_V δ := (u88).trans rfl
                have v92 := kr_t (kr_r (ad := ad)) u89
                have f93 := cb_12_36 i80 k_a0
                have f94 := ti_b r78.1
                have f95 := ti_b r78.1
                exact ⟨⟨by assumption, ⟨kp_w (by decide) u90, v91, kr_w (by decide) v92⟩, by first | assumption | omega, by first | assumption | omega, by first | assumption | omega⟩, ha85, hb86⟩
              · have c96 : x1.toInt ≠ x6v.toInt := o_ne h62
                refine ok2_mono (vj_X12_touchDrop_121 L hN (a0 := a0) (x1 := x1) (x2 := x2) (x3 := x3) (x4 := x4) (xs0 := x1) (x8v := (1 : Int32)) hT k_a0 (show 2 ≤ (x2).toInt by first | assumption | omega) (show (x2).toInt ≤ 16 by first | assumption | omega) (show 0 ≤ (x3).toInt by first | assumption | omega) (show (x3).toInt ≤ (x4).toInt by first | assumption | omega) (show (x4).toInt ≤ (x3).toInt + 2000 by first | assumption | omega) (show (x4).toInt ≤ (q_I δ 12 36 a0).toInt by first | assumption | omega) (show (q_I δ 12 36 a0).toInt ≤ 12000 by first | assumption | omega) (show 1 < (x2).toInt → (q_I δ 12 36 a0).toInt ≤ 10000 by first | assumption | omega) (show 2 < (x2).toInt → (q_I δ 12 36 a0).toInt ≤ 8000 by first | assumption | omega) (show 4 < (x2).toInt → (q_I δ 12 36 a0).toInt ≤ 6000 by first | assumption | omega) (show 8 < (x2).toInt → (q_I δ 12 36 a0).toInt ≤ 4000 by first | assumption | omega) (show (x2).toInt ≤ K by first | assumption | omega) (show (x3).toInt < (x4).toInt by first | assumption | omega) (show (1 : Int) = 1 ∨ (1 : Int) = 3 by first | assumption | omega) I A) (fun r97 r97p hr98 => ?_)
                obtain ⟨hq103, ha104, hb105⟩ := hr98
                obtain ⟨i99, ⟨u106, u107, u108⟩, p100, p101, p102⟩ := hq103
                have u109 := kp_t kp_r u106
                have v110 : q_V r97.2 = q_V δ := (u107).trans rfl
                have v111 := kr_t (kr_r (ad := ad)) u108
                have f112 := cb_12_36 i99 k_a0
                have f113 := ti_b r97.1
                have f114 := ti_b r97.1
                exact ⟨⟨by assumption, ⟨kp_w (by decide) u109, v110, kr_w (by decide) v111⟩, by first | assumption | omega, by first | assumption | omega, by first | assumption | omega⟩, ha104, hb105⟩
          · have c115 : xs0.toInt ≠ (0 : Int) := o_ne h25
            unfold J_X12_touchDrop_83
            try rw [A.1]
            try rw [A.2.1]
            try rw [A.2.2.1]
            try rw [A.2.2.2.1]
            refine ok2_ite (fun h116 => ?_) (fun h116 => ?_)
            · have c117 : x1.toInt = x5v.toInt := o_eq h116
              obtain ⟨b118, o119, k120, n121, w122⟩ := gO_12_35 L k_a0
              obtain rfl := gS_12_35 L k_a0 o119
              refine ok2_at o119 ?_
              first | (have q124 := te_addc (c := 1) (n := 1) rfl x3 (by omega) (by omega); obtain ⟨f125, f126, f127⟩ := q124) | (obtain ⟨q124, f125, f126, f127⟩ := ti_addc (c := 1) (n := 1) rfl x3)
              have t128 := ti_tn (x3 + (1 : Int32))
              refine ok2_gd (fun hc129 => ?_) ?_
              · rcases hc129 with hc129 | hc129
                · have c130 : (x3 + (1 : Int32)).toInt < (0 : Int) := o_lt hc129
                  omega
                · omega
              have hq131 : q_R δp (Ad ad 119) (x3 + (1 : Int32)).toNatClampNeg = q_R δ (Ad ad 119) (x3 + (1 : Int32)).toNatClampNeg := A.2.2.2.2 _ (by omega)
              try rw [hq131]
              refine ok2_mono (vj_X12_touchDrop_121 L hN (a0 := a0) (x1 := x1) (x2 := x2) (x3 := x3) (x4 := x4) (xs0 := (q_R δ (Ad ad 119) (x3 + (1 : Int32)).toNatClampNeg)) (x8v := (3 : Int32)) hT k_a0 (show 2 ≤ (x2).toInt by first | assumption | omega) (show (x2).toInt ≤ 16 by first | assumption | omega) (show 0 ≤ (x3).toInt by first | assumption | omega) (show (x3).toInt ≤ (x4).toInt by first | assumption | omega) (show (x4).toInt ≤ (x3).toInt + 2000 by first | assumption | omega) (show (x4).toInt ≤ (q_I δ 12 36 a0).toInt by first | assumption | omega) (show (q_I δ 12 36 a0).toInt ≤ 12000 by first | assumption | omega) (show 1 < (x2).toInt → (q_I δ 12 36 a0).toInt ≤ 10000 by first | assumption | omega) (show 2 < (x2).toInt → (q_I δ 12 36 a0).toInt ≤ 8000 by first | assumption | omega) (show 4 < (x2).toInt → (q_I δ 12 36 a0).toInt ≤ 6000 by first | assumption | omega) (show 8 < (x2).toInt → (q_I δ 12 36 a0).toInt ≤ 4000 by first | assumption | omega) (show (x2).toInt ≤ K by first | assumption | omega) (show (x3).toInt < (x4).toInt by first | assumption | omega) (show (3 : Int) = 1 ∨ (3 : Int) = 3 by first | assumption | omega) I A) (fun r132 r132p hr133 => ?_)
              obtain ⟨hq138, ha139, hb140⟩ := hr133
              obtain ⟨i134, ⟨u141, u142, u143⟩, p135, p136, p137⟩ := hq138
              have u144 := kp_t kp_r u141
              have v145 : q_V r132.2 = q_V δ := (u142).trans rfl
              have v146 := kr_t (kr_r (ad := ad)) u143
              have f147 := cb_12_36 i134 k_a0
              have f148 := ti_b r132.1
              have f149 := ti_b r132.1
              exact ⟨⟨by assumption, ⟨kp_w (by decide) u144, v145, kr_w (by decide) v146⟩, by first | assumption | omega, by first | assumption | omega, by first | assumption | omega⟩, ha139, hb140⟩
            · have c150 : x1.toInt ≠ x5v.toInt := o_ne h116
              refine ok2_ite (fun h151 => ?_) (fun h151 => ?_)
              · have c152 : x1.toInt = x6v.toInt := o_eq h151
                obtain ⟨b153, o154, k155, n156, w157⟩ := gO_12_35 L k_a0
                obtain rfl := gS_12_35 L k_a0 o154
                refine ok2_at o154 ?_
                first | (have q159 := te_subc (c := 2) (n := 2) rfl x4 (by omega) (by omega); obtain ⟨f160, f161, f162⟩ := q159) | (obtain ⟨q159, f160, f161, f162⟩ := ti_subc (c := 2) (n := 2) rfl x4)
                have t163 := ti_tn (x4 - (2 : Int32))
                refine ok2_gd (fun hc164 => ?_) ?_
                · rcases hc164 with hc164 | hc164
                  · have c165 : (x4 - (2 : Int32)).toInt < (0 : Int) := o_lt hc164
                    omega
                  · omega
                have hq166 : q_R δp (Ad ad 119) (x4 - (2 : Int32)).toNatClampNeg = q_R δ (Ad ad 119) (x4 - (2 : Int32)).toNatClampNeg := A.2.2.2.2 _ (by omega)
                try rw [hq166]
                refine ok2_mono (vj_X12_touchDrop_121 L hN (a0 := a0) (x1 := x1) (x2 := x2) (x3 := x3) (x4 := x4) (xs0 := (q_R δ (Ad ad 119) (x4 - (2 : Int32)).toNatClampNeg)) (x8v := (3 : Int32)) hT k_a0 (show 2 ≤ (x2).toInt by first | assumption | omega) (show (x2).toInt ≤ 16 by first | assumption | omega) (show 0 ≤ (x3).toInt by first | assumption | omega) (show (x3).toInt ≤ (x4).toInt by first | assumption | omega) (show (x4).toInt ≤ (x3).toInt + 2000 by first | assumption | omega) (show (x4).toInt ≤ (q_I δ 12 36 a0).toInt by first | assumption | omega) (show (q_I δ 12 36 a0).toInt ≤ 12000 by first | assumption | omega) (show 1 < (x2).toInt → (q_I δ 12 36 a0).toInt ≤ 10000 by first | assumption | omega) (show 2 < (x2).toInt → (q_I δ 12 36 a0).toInt ≤ 8000 by first | assumption | omega) (show 4 < (x2).toInt → (q_I δ 12 36 a0).toInt ≤ 6000 by first | assumption | omega) (show 8 < (x2).toInt → (q_I δ 12 36 a0).toInt ≤ 4000 by first | assumption | omega) (show (x2).toInt ≤ K by first | assumption | omega) (show (x3).toInt < (x4).toInt by first | assumption | omega) (show (3 : Int) = 1 ∨ (3 : Int) = 3 by first | assumption | omega) I A) (fun r167 r167p hr168 => ?_)
                obtain ⟨hq173, ha174, hb175⟩ := hr168
                obtain ⟨i169, ⟨u176, u177, u178⟩, p170, p171, p172⟩ := hq173
                have u179 := kp_t kp_r u176
                have v180 : q_V r167.2 = q_V δ := (u177).trans rfl
                have v181 := kr_t (kr_r (ad := ad)) u178
                have f182 := cb_12_36 i169 k_a0
                have f183 := ti_b r167.1
                have f184 := ti_b r167.1
                exact ⟨⟨by assumption, ⟨kp_w (by decide) u179, v180, kr_w (by decide) v181⟩, by first | assumption | omega, by first | assumption | omega, by first | assumption | omega⟩, ha174, hb175⟩
              · have c185 : x1.toInt ≠ x6v.toInt := o_ne h151
                refine ok2_mono (vj_X12_touchDrop_121 L hN (a0 := a0) (x1 := x1) (x2 := x2) (x3 := x3) (x4 := x4) (xs0 := x1) (x8v := (3 : Int32)) hT k_a0 (show 2 ≤ (x2).toInt by first | assumption | omega) (show (x2).toInt ≤ 16 by first | assumption | omega) (show 0 ≤ (x3).toInt by first | assumption | omega) (show (x3).toInt ≤ (x4).toInt by first | assumption | omega) (show (x4).toInt ≤ (x3).toInt + 2000 by first | assumption | omega) (show (x4).toInt ≤ (q_I δ 12 36 a0).toInt by first | assumption | omega) (show (q_I δ 12 36 a0).toInt ≤ 12000 by first | assumption | omega) (show 1 < (x2).toInt → (q_I δ 12 36 a0).toInt ≤ 10000 by first | assumption | omega) (show 2 < (x2).toInt → (q_I δ 12 36 a0).toInt ≤ 8000 by first | assumption | omega) (show 4 < (x2).toInt → (q_I δ 12 36 a0).toInt ≤ 6000 by first | assumption | omega) (show 8 < (x2).toInt → (q_I δ 12 36 a0).toInt ≤ 4000 by first | assumption | omega) (show (x2).toInt ≤ K by first | assumption | omega) (show (x3).toInt < (x4).toInt by first | assumption | omega) (show (3 : Int) = 1 ∨ (3 : Int) = 3 by first | assumption | omega) I A) (fun r186 r186p hr187 => ?_)
                obtain ⟨hq192, ha193, hb194⟩ := hr187
                obtain ⟨i188, ⟨u195, u196, u197⟩, p189, p190, p191⟩ := hq192
                have u198 := kp_t kp_r u195
                have v199 : q_V r186.2 = q_V δ := (u196).trans rfl
                have v200 := kr_t (kr_r (ad := ad)) u197
                have f201 := cb_12_36 i188 k_a0
                have f202 := ti_b r186.1
                have f203 := ti_b r186.1
                exact ⟨⟨by assumption, ⟨kp_w (by decide) u198, v199, kr_w (by decide) v200⟩, by first | assumption | omega, by first | assumption | omega, by first | assumption | omega⟩, ha193, hb194⟩
        · have c204 : xs0.toInt ≠ (0 : Int) := o_ne h23
          refine ok2_ite (fun h205 => ?_) (fun h205 => ?_)
          · have c206 : (x4 - x3).toInt = (2 : Int) := o_eq h205
            unfold J_X12_touchDrop_71
            try rw [A.1]
            try rw [A.2.1]
            try rw [A.2.2.1]
            try rw [A.2.2.2.1]
            exact ok2_some (show (RI ad h.1 δ0 δ ∧ (kp [(12, 36)] δ δ ∧ q_V δ = q_V δ ∧ kr ad [119] δ δ) ∧ (q_I δ 12 36 a0).toInt = (q_I δ 12 36 a0).toInt ∧ 1 ≤ (1 : Int) ∧ (1 : Int) ≤ 4 * (x2).toInt - 3) ∧ AG ad a0 δ δp ∧ (1 : Int32) = (1 : Int32) from ⟨⟨I, ⟨kp_w (by decide) kp_r, rfl, kr_w (by decide) (kr_r (ad := ad))⟩, by first | assumption | omega, by first | assumption | omega, by first | assumption | omega⟩, A, rfl⟩)
          · have c207 : (x4 - x3).toInt ≠ (2 : Int) := o_ne h205
            unfold J_X12_touchDrop_73
            try rw [A.1]
            try rw [A.2.1]
            try rw [A.2.2.1]
            try rw [A.2.2.2.1]
            refine ok2_ite (fun h208 => ?_) (fun h208 => ?_)
            · have c209 : xs0.toInt = (0 : Int) := o_eq h208
              unfold J_X12_touchDrop_83
              try rw [A.1]
              try rw [A.2.1]
              try rw [A.2.2.1]
              try rw [A.2.2.2.1]
              refine ok2_ite (fun h210 => ?_) (fun h210 => ?_)
              · have c211 : x1.toInt = x5v.toInt := o_eq h210
                obtain ⟨b212, o213, k214, n215, w216⟩ := gO_12_35 L k_a0
                obtain rfl := gS_12_35 L k_a0 o213
                refine ok2_at o213 ?_
                first | (have q218 := te_addc (c := 1) (n := 1) rfl x3 (by omega) (by omega); obtain ⟨f219, f220, f221⟩ := q218) | (obtain ⟨q218, f219, f220, f221⟩ := ti_addc (c := 1) (n := 1) rfl x3)
                have t222 := ti_tn (x3 + (1 : Int32))
                refine ok2_gd (fun hc223 => ?_) ?_
                · rcases hc223 with hc223 | hc223
                  · have c224 : (x3 + (1 : Int32)).toInt < (0 : Int) := o_lt hc223
                    omega
                  · omega
                have hq225 : q_R δp (Ad ad 119) (x3 + (1 : Int32)).toNatClampNeg = q_R δ (Ad ad 119) (x3 + (1 : Int32)).toNatClampNeg := A.2.2.2.2 _ (by omega)
                try rw [hq225]
                refine ok2_mono (vj_X12_touchDrop_121 L hN (a0 := a0) (x1 := x1) (x2 := x2) (x3 := x3) (x4 := x4) (xs0 := (q_R δ (Ad ad 119) (x3 + (1 : Int32)).toNatClampNeg)) (x8v := (1 : Int32)) hT k_a0 (show 2 ≤ (x2).toInt by first | assumption | omega) (show (x2).toInt ≤ 16 by first | assumption | omega) (show 0 ≤ (x3).toInt by first | assumption | omega) (show (x3).toInt ≤ (x4).toInt by first | assumption | omega) (show (x4).toInt ≤ (x3).toInt + 2000 by first | assumption | omega) (show (x4).toInt ≤ (q_I δ 12 36 a0).toInt by first | assumption | omega) (show (q_I δ 12 36 a0).toInt ≤ 12000 by first | assumption | omega) (show 1 < (x2).toInt → (q_I δ 12 36 a0).toInt ≤ 10000 by first | assumption | omega) (show 2 < (x2).toInt → (q_I δ 12 36 a0).toInt ≤ 8000 by first | assumption | omega) (show 4 < (x2).toInt → (q_I δ 12 36 a0).toInt ≤ 6000 by first | assumption | omega) (show 8 < (x2).toInt → (q_I δ 12 36 a0).toInt ≤ 4000 by first | assumption | omega) (show (x2).toInt ≤ K by first | assumption | omega) (show (x3).toInt < (x4).toInt by first | assumption | omega) (show (1 : Int) = 1 ∨ (1 : Int) = 3 by first | assumption | omega) I A) (fun r226 r226p hr227 => ?_)
                obtain ⟨hq232, ha233, hb234⟩ := hr227
                obtain ⟨i228, ⟨u235, u236, u237⟩, p229, p230, p231⟩ := hq232
                have u238 := kp_t kp_r u235
                have v239 : q_V r226.2 = q_V δ := (u236).trans rfl
                have v240 := kr_t (kr_r (ad := ad)) u237
                have f241 := cb_12_36 i228 k_a0
                have f242 := ti_b r226.1
                have f243 := ti_b r226.1
                exact ⟨⟨by assumption, ⟨kp_w (by decide) u238, v239, kr_w (by decide) v240⟩, by first | assumption | omega, by first | assumption | omega, by first | assumption | omega⟩, ha233, hb234⟩
              · have c244 : x1.toInt ≠ x5v.toInt := o_ne h210
                refine ok2_ite (fun h245 => ?_) (fun h245 => ?_)
                · have c246 : x1.toInt = x6v.toInt := o_eq h245
                  obtain ⟨b247, o248, k249, n250, w251⟩ := gO_12_35 L k_a0
                  obtain rfl := gS_12_35 L k_a0 o248
                  refine ok2_at o248 ?_
                  first | (have q253 := te_subc (c := 2) (n := 2) rfl x4 (by omega) (by omega); obtain ⟨f254, f255, f256⟩ := q253) | (obtain ⟨q253, f254, f255, f256⟩ := ti_subc (c := 2) (n := 2) rfl x4)
                  have t257 := ti_tn (x4 - (2 : Int32))
                  refine ok2_gd (fun hc258 => ?_) ?_
                  · rcases hc258 with hc258 | hc258
                    · have c259 : (x4 - (2 : Int32)).toInt < (0 : Int) := o_lt hc258
                      omega
                    · omega
                  have hq260 : q_R δp (Ad ad 119) (x4 - (2 : Int32)).toNatClampNeg = q_R δ (Ad ad 119) (x4 - (2 : Int32)).toNatClampNeg := A.2.2.2.2 _ (by omega)
                  try rw [hq260]
                  refine ok2_mono (vj_X12_touchDrop_121 L hN (a0 := a0) (x1 := x1) (x2 := x2) (x3 := x3) (x4 := x4) (xs0 := (q_R δ (Ad ad 119) (x4 - (2 : Int32)).toNatClampNeg)) (x8v := (1 : Int32)) hT k_a0 (show 2 ≤ (x2).toInt by first | assumption | omega) (show (x2).toInt ≤ 16 by first | assumption | omega) (show 0 ≤ (x3).toInt by first | assumption | omega) (show (x3).toInt ≤ (x4).toInt by first | assumption | omega) (show (x4).toInt ≤ (x3).toInt + 2000 by first | assumption | omega) (show (x4).toInt ≤ (q_I δ 12 36 a0).toInt by first | assumption | omega) (show (q_I δ 12 36 a0).toInt ≤ 12000 by first | assumption | omega) (show 1 < (x2).toInt → (q_I δ 12 36 a0).toInt ≤ 10000 by first | assumption | omega) (show 2 < (x2).toInt → (q_I δ 12 36 a0).toInt ≤ 8000 by first | assumption | omega) (show 4 < (x2).toInt → (q_I δ 12 36 a0).toInt ≤ 6000 by first | assumption | omega) (show 8 < (x2).toInt → (q_I δ 12 36 a0).toInt ≤ 4000 by first | assumption | omega) (show (x2).toInt ≤ K by first | assumption | omega) (show (x3).toInt < (x4).toInt by first | assumption | omega) (show (1 : Int) = 1 ∨ (1 : Int) = 3 by first | assumption | omega) I A) (fun r261 r261p hr262 => ?_)
                  obtain ⟨hq267, ha268, hb269⟩ := hr262
                  obtain ⟨i263, ⟨u270, u271, u272⟩, p264, p265, p266⟩ := hq267
                  have u273 := kp_t kp_r u270
                  have v274 : q_V r261.2 = q_V δ := (u271).trans rfl
                  have v275 := kr_t (kr_r (ad := ad)) u272
                  have f276 := cb_12_36 i263 k_a0
                  have f277 := ti_b r261.1
                  have f278 := ti_b r261.1
                  exact ⟨⟨by assumption, ⟨kp_w (by decide) u273, v274, kr_w (by decide) v275⟩, by first | assumption | omega, by first | assumption | omega, by first | assumption | omega⟩, ha268, hb269⟩
                · have c279 : x1.toInt ≠ x6v.toInt := o_ne h245
                  refine ok2_mono (vj_X12_touchDrop_121 L hN (a0 := a0) (x1 := x1) (x2 := x2) (x3 := x3) (x4 := x4) (xs0 := x1) (x8v := (1 : Int32)) hT k_a0 (show 2 ≤ (x2).toInt by first | assumption | omega) (show (x2).toInt ≤ 16 by first | assumption | omega) (show 0 ≤ (x3).toInt by first | assumption | omega) (show (x3).toInt ≤ (x4).toInt by first | assumption | omega) (show (x4).toInt ≤ (x3).toInt + 2000 by first | assumption | omega) (show (x4).toInt ≤ (q_I δ 12 36 a0).toInt by first | assumption | omega) (show (q_I δ 12 36 a0).toInt ≤ 12000 by first | assumption | omega) (show 1 < (x2).toInt → (q_I δ 12 36 a0).toInt ≤ 10000 by first | assumption | omega) (show 2 < (x2).toInt → (q_I δ 12 36 a0).toInt ≤ 8000 by first | assumption | omega) (show 4 < (x2).toInt → (q_I δ 12 36 a0).toInt ≤ 6000 by first | assumption | omega) (show 8 < (x2).toInt → (q_I δ 12 36 a0).toInt ≤ 4000 by first | assumption | omega) (show (x2).toInt ≤ K by first | assumption | omega) (show (x3).toInt < (x4).toInt by first | assumption | omega) (show (1 : Int) = 1 ∨ (1 : Int) = 3 by first | assumption | omega) I A) (fun r280 r280p hr281 => ?_)
                  obtain ⟨hq286, ha287, hb288⟩ := hr281
                  obtain ⟨i282, ⟨u289, u290, u291⟩, p283, p284, p285⟩ := hq286
                  have u292 := kp_t kp_r u289
                  have v293 : q_V r280.2 = q_V δ := (u290).trans rfl
                  have v294 := kr_t (kr_r (ad := ad)) u291
                  have f295 := cb_12_36 i282 k_a0
                  have f296 := ti_b r280.1
                  have f297 := ti_b r280.1
                  exact ⟨⟨by assumption, ⟨kp_w (by decide) u292, v293, kr_w (by decide) v294⟩, by first | assumption | omega, by first | assumption | omega, by first | assumption | omega⟩, ha287, hb288⟩
            · have c298 : xs0.toInt ≠ (0 : Int) := o_ne h208
              unfold J_X12_touchDrop_83
              try rw [A.1]
              try rw [A.2.1]
              try rw [A.2.2.1]
              try rw [A.2.2.2.1]
              refine ok2_ite (fun h299 => ?_) (fun h299 => ?_)
              · have c300 : x1.toInt = x5v.toInt := o_eq h299
                obtain ⟨b301, o302, k303, n304, w305⟩ := gO_12_35 L k_a0
                obtain rfl := gS_12_35 L k_a0 o302
                refine ok2_at o302 ?_
                first | (have q307 := te_addc (c := 1) (n := 1) rfl x3 (by omega) (by omega); obtain ⟨f308, f309, f310⟩ := q307) | (obtain ⟨q307, f308, f309, f310⟩ := ti_addc (c := 1) (n := 1) rfl x3)
                have t311 := ti_tn (x3 + (1 : Int32))
                refine ok2_gd (fun hc312 => ?_) ?_
                · rcases hc312 with hc312 | hc312
                  · have c313 : (x3 + (1 : Int32)).toInt < (0 : Int) := o_lt hc312
                    omega
                  · omega
                have hq314 : q_R δp (Ad ad 119) (x3 + (1 : Int32)).toNatClampNeg = q_R δ (Ad ad 119) (x3 + (1 : Int32)).toNatClampNeg := A.2.2.2.2 _ (by omega)
                try rw [hq314]
                refine ok2_mono (vj_X12_touchDrop_121 L hN (a0 := a0) (x1 := x1) (x2 := x2) (x3 := x3) (x4 := x4) (xs0 := (q_R δ (Ad ad 119) (x3 + (1 : Int32)).toNatClampNeg)) (x8v := (3 : Int32)) hT k_a0 (show 2 ≤ (x2).toInt by first | assumption | omega) (show (x2).toInt ≤ 16 by first | assumption | omega) (show 0 ≤ (x3).toInt by first | assumption | omega) (show (x3).toInt ≤ (x4).toInt by first | assumption | omega) (show (x4).toInt ≤ (x3).toInt + 2000 by first | assumption | omega) (show (x4).toInt ≤ (q_I δ 12 36 a0).toInt by first | assumption | omega) (show (q_I δ 12 36 a0).toInt ≤ 12000 by first | assumption | omega) (show 1 < (x2).toInt → (q_I δ 12 36 a0).toInt ≤ 10000 by first | assumption | omega) (show 2 < (x2).toInt → (q_I δ 12 36 a0).toInt ≤ 8000 by first | assumption | omega) (show 4 < (x2).toInt → (q_I δ 12 36 a0).toInt ≤ 6000 by first | assumption | omega) (show 8 < (x2).toInt → (q_I δ 12 36 a0).toInt ≤ 4000 by first | assumption | omega) (show (x2).toInt ≤ K by first | assumption | omega) (show (x3).toInt < (x4).toInt by first | assumption | omega) (show (3 : Int) = 1 ∨ (3 : Int) = 3 by first | assumption | omega) I A) (fun r315 r315p hr316 => ?_)
                obtain ⟨hq321, ha322, hb323⟩ := hr316
                obtain ⟨i317, ⟨u324, u325, u326⟩, p318, p319, p320⟩ := hq321
                have u327 := kp_t kp_r u324
                have v328 : q_V r315.2 = q_V δ := (u325).trans rfl
                have v329 := kr_t (kr_r (ad := ad)) u326
                have f330 := cb_12_36 i317 k_a0
                have f331 := ti_b r315.1
                have f332 := ti_b r315.1
                exact ⟨⟨by assumption, ⟨kp_w (by decide) u327, v328, kr_w (by decide) v329⟩, by first | assumption | omega, by first | assumption | omega, by first | assumption | omega⟩, ha322, hb323⟩
              · have c333 : x1.toInt ≠ x5v.toInt := o_ne h299
                refine ok2_ite (fun h334 => ?_) (fun h334 => ?_)
                · have c335 : x1.toInt = x6v.toInt := o_eq h334
                  obtain ⟨b336, o337, k338, n339, w340⟩ := gO_12_35 L k_a0
                  obtain rfl := gS_12_35 L k_a0 o337
                  refine ok2_at o337 ?_
                  first | (have q342 := te_subc (c := 2) (n := 2) rfl x4 (by omega) (by omega); obtain ⟨f343, f344, f345⟩ := q342) | (obtain ⟨q342, f343, f344, f345⟩ := ti_subc (c := 2) (n := 2) rfl x4)
                  have t346 := ti_tn (x4 - (2 : Int32))
                  refine ok2_gd (fun hc347 => ?_) ?_
                  · rcases hc347 with hc347 | hc347
                    · have c348 : (x4 - (2 : Int32)).toInt < (0 : Int) := o_lt hc347
                      omega
                    · omega
                  have hq349 : q_R δp (Ad ad 119) (x4 - (2 : Int32)).toNatClampNeg = q_R δ (Ad ad 119) (x4 - (2 : Int32)).toNatClampNeg := A.2.2.2.2 _ (by omega)
                  try rw [hq349]
                  refine ok2_mono (vj_X12_touchDrop_121 L hN (a0 := a0) (x1 := x1) (x2 := x2) (x3 := x3) (x4 := x4) (xs0 := (q_R δ (Ad ad 119) (x4 - (2 : Int32)).toNatClampNeg)) (x8v := (3 : Int32)) hT k_a0 (show 2 ≤ (x2).toInt by first | assumption | omega) (show (x2).toInt ≤ 16 by first | assumption | omega) (show 0 ≤ (x3).toInt by first | assumption | omega) (show (x3).toInt ≤ (x4).toInt by first | assumption | omega) (show (x4).toInt ≤ (x3).toInt + 2000 by first | assumption | omega) (show (x4).toInt ≤ (q_I δ 12 36 a0).toInt by first | assumption | omega) (show (q_I δ 12 36 a0).toInt ≤ 12000 by first | assumption | omega) (show 1 < (x2).toInt → (q_I δ 12 36 a0).toInt ≤ 10000 by first | assumption | omega) (show 2 < (x2).toInt → (q_I δ 12 36 a0).toInt ≤ 8000 by first | assumption | omega) (show 4 < (x2).toInt → (q_I δ 12 36 a0).toInt ≤ 6000 by first | assumption | omega) (show 8 < (x2).toInt → (q_I δ 12 36 a0).toInt ≤ 4000 by first | assumption | omega) (show (x2).toInt ≤ K by first | assumption | omega) (show (x3).toInt < (x4).toInt by first | assumption | omega) (show (3 : Int) = 1 ∨ (3 : Int) = 3 by first | assumption | omega) I A) (fun r350 r350p hr351 => ?_)
                  obtain ⟨hq356, ha357, hb358⟩ := hr351
                  obtain ⟨i352, ⟨u359, u360, u361⟩, p353, p354, p355⟩ := hq356
                  have u362 := kp_t kp_r u359
                  have v363 : q_V r350.2 = q_V δ := (u360).trans rfl
                  have v364 := kr_t (kr_r (ad := ad)) u361
                  have f365 := cb_12_36 i352 k_a0
                  have f366 := ti_b r350.1
                  have f367 := ti_b r350.1
                  exact ⟨⟨by assumption, ⟨kp_w (by decide) u362, v363, kr_w (by decide) v364⟩, by first | assumption | omega, by first | assumption | omega, by first | assumption | omega⟩, ha357, hb358⟩
                · have c368 : x1.toInt ≠ x6v.toInt := o_ne h334
                  refine ok2_mono (vj_X12_touchDrop_121 L hN (a0 := a0) (x1 := x1) (x2 := x2) (x3 := x3) (x4 := x4) (xs0 := x1) (x8v := (3 : Int32)) hT k_a0 (show 2 ≤ (x2).toInt by first | assumption | omega) (show (x2).toInt ≤ 16 by first | assumption | omega) (show 0 ≤ (x3).toInt by first | assumption | omega) (show (x3).toInt ≤ (x4).toInt by first | assumption | omega) (show (x4).toInt ≤ (x3).toInt + 2000 by first | assumption | omega) (show (x4).toInt ≤ (q_I δ 12 36 a0).toInt by first | assumption | omega) (show (q_I δ 12 36 a0).toInt ≤ 12000 by first | assumption | omega) (show 1 < (x2).toInt → (q_I δ 12 36 a0).toInt ≤ 10000 by first | assumption | omega) (show 2 < (x2).toInt → (q_I δ 12 36 a0).toInt ≤ 8000 by first | assumption | omega) (show 4 < (x2).toInt → (q_I δ 12 36 a0).toInt ≤ 6000 by first | assumption | omega) (show 8 < (x2).toInt → (q_I δ 12 36 a0).toInt ≤ 4000 by first | assumption | omega) (show (x2).toInt ≤ K by first | assumption | omega) (show (x3).toInt < (x4).toInt by first | assumption | omega) (show (3 : Int) = 1 ∨ (3 : Int) = 3 by first | assumption | omega) I A) (fun r369 r369p hr370 => ?_)
                  obtain ⟨hq375, ha376, hb377⟩ := hr370
                  obtain ⟨i371, ⟨u378, u379, u380⟩, p372, p373, p374⟩ := hq375
                  have u381 := kp_t kp_r u378
                  have v382 : q_V r369.2 = q_V δ := (u379).trans rfl
                  have v383 := kr_t (kr_r (ad := ad)) u380
                  have f384 := cb_12_36 i371 k_a0
                  have f385 := ti_b r369.1
                  have f386 := ti_b r369.1
                  exact ⟨⟨by assumption, ⟨kp_w (by decide) u381, v382, kr_w (by decide) v383⟩, by first | assumption | omega, by first | assumption | omega, by first | assumption | omega⟩, ha376, hb377⟩
set_option maxHeartbeats 4000000 in
theorem v_bX12_touchDrop {ad : List Nat} {h : hp} (L : Lay TLx ad h) {δ0 : dp} {N : Nat} (hN : 10000000 ≤ N) {T : Nat → Int32 → Int32 → Int32 → Int32 → Int32 → dp → Option (Int32 × dp)} {K : Int} (hT : ∀ (a0 : Nat) (x1 : Int32) (x2 : Int32) (x3 : Int32) (x4 : Int32) (x5 : Int32) (δ : dp) (δp : dp), q_K h.1 a0 = 12 → 1 ≤ (x3).toInt → (x3).toInt ≤ 16 → 0 ≤ (x4).toInt → (x4).toInt ≤ (x5).toInt → (x5).toInt ≤ (x4).toInt + 2000 → (x5).toInt ≤ (q_I δ 12 36 a0).toInt → (q_I δ 12 36 a0).toInt ≤ 12000 → (1 < (x3).toInt → (q_I δ 12 36 a0).toInt ≤ 10000) → (2 < (x3).toInt → (q_I δ 12 36 a0).toInt ≤ 8000) → (4 < (x3).toInt → (q_I δ 12 36 a0).toInt ≤ 6000) → (8 < (x3).toInt → (q_I δ 12 36 a0).toInt ≤ 4000) → (x3).toInt < K → RI ad h.1 δ0 δ → AG ad a0 δ δp → ok2 (T a0 x1 x2 x3 x4 x5 δ) (T a0 x1 x2 x3 x4 x5 δp) (fun r rp => (RI ad h.1 δ0 r.2 ∧ (kp [(12, 36)] δ r.2 ∧ q_V r.2 = q_V δ ∧ kr ad [119] δ r.2) ∧ (q_I r.2 12 36 a0).toInt = (q_I δ 12 36 a0).toInt ∧ 1 ≤ (r.1).toInt ∧ (r.1).toInt ≤ 4 * (x3).toInt - 3) ∧ AG ad a0 r.2 rp.2 ∧ rp.1 = r.1)) {a0 : Nat} {x1 : Int32} {x2 : Int32} {x3 : Int32} {x4 : Int32} (k_a0 : q_K h.1 a0 = 12) {δ δp : dp} (z0 : 2 ≤ (x2).toInt) (z1 : (x2).toInt ≤ 16) (z2 : 0 ≤ (x3).toInt) (z3 : (x3).toInt ≤ (x4).toInt) (z4 : (x4).toInt ≤ (x3).toInt + 2000) (z5 : (x4).toInt ≤ (q_I δ 12 36 a0).toInt) (z6 : (q_I δ 12 36 a0).toInt ≤ 12000) (z7 : 1 < (x2).toInt → (q_I δ 12 36 a0).toInt ≤ 10000) (z8 : 2 < (x2).toInt → (q_I δ 12 36 a0).toInt ≤ 8000) (z9 : 4 < (x2).toInt → (q_I δ 12 36 a0).toInt ≤ 6000) (z10 : 8 < (x2).toInt → (q_I δ 12 36 a0).toInt ≤ 4000) (z11 : (x2).toInt ≤ K) (z12 : (x3).toInt < (x4).toInt) (I : RI ad h.1 δ0 δ) (A : AG ad a0 δ δp) : ok2 (B_X12_touchDrop N h.1 T a0 x1 x2 x3 x4 δ) (B_X12_touchDrop N h.1 T a0 x1 x2 x3 x4 δp) (fun r rp => (RI ad h.1 δ0 r.2 ∧ (kp [(12, 36)] δ r.2 ∧ q_V r.2 = q_V δ ∧ kr ad [119] δ r.2) ∧ (q_I r.2 12 36 a0).toInt = (q_I δ 12 36 a0).toInt ∧ 1 ≤ (r.1).toInt ∧ (r.1).toInt ≤ 4 * (x2).toInt - 3) ∧ AG ad a0 r.2 rp.2 ∧ rp.1 = r.1) := by
  unfold B_X12_touchDrop
  have f1 := ti_b x2
  have f2 := ti_b x3
  have f3 := ti_b x4
  have f4 := cb_12_36 I k_a0
  try rw [A.1]
  try rw [A.2.1]
  try rw [A.2.2.1]
  try rw [A.2.2.2.1]
  obtain ⟨b5, o6, k7, n8, w9⟩ := gO_12_35 L k_a0
  obtain rfl := gS_12_35 L k_a0 o6
  refine ok2_at o6 ?_
  have t10 := ti_tn x3
  refine ok2_gd (fun hc11 => ?_) ?_
  · rcases hc11 with hc11 | hc11
    · have c12 : x3.toInt < (0 : Int) := o_lt hc11
      omega
    · omega
  have hq15 : q_R δp (Ad ad 119) x3.toNatClampNeg = q_R δ (Ad ad 119) x3.toNatClampNeg := A.2.2.2.2 _ (by omega)
  try rw [hq15]
  have f16 := ti_b (q_R δ (Ad ad 119) x3.toNatClampNeg)
  refine ok2_biv (fun vx13 e14 => ?_)
  have f17 : vx13.toInt = (q_R δ (Ad ad 119) x3.toNatClampNeg).toInt := congrArg Int32.toInt e14
  refine ok2_at o6 ?_
  first | (have q19 := te_subc (c := 1) (n := 1) rfl x4 (by omega) (by omega); obtain ⟨f20, f21, f22⟩ := q19) | (obtain ⟨q19, f20, f21, f22⟩ := ti_subc (c := 1) (n := 1) rfl x4)
  have t23 := ti_tn (x4 - (1 : Int32))
  refine ok2_gd (fun hc24 => ?_) ?_
  · rcases hc24 with hc24 | hc24
    · have c25 : (x4 - (1 : Int32)).toInt < (0 : Int) := o_lt hc24
      omega
    · omega
  have hq28 : q_R δp (Ad ad 119) (x4 - (1 : Int32)).toNatClampNeg = q_R δ (Ad ad 119) (x4 - (1 : Int32)).toNatClampNeg := A.2.2.2.2 _ (by omega)
  try rw [hq28]
  have f29 := ti_b (q_R δ (Ad ad 119) (x4 - (1 : Int32)).toNatClampNeg)
  refine ok2_biv (fun vx26 e27 => ?_)
  have f30 : vx26.toInt = (q_R δ (Ad ad 119) (x4 - (1 : Int32)).toNatClampNeg).toInt := congrArg Int32.toInt e27
  have f31 := ti_b x1
  refine ok2_ite (fun h32 => ?_) (fun h32 => ?_)
  · have c33 : x1.toInt = vx13.toInt := o_eq h32
    unfold J_X12_touchDrop_31
    try rw [A.1]
    try rw [A.2.1]
    try rw [A.2.2.1]
    try rw [A.2.2.2.1]
    refine ok2_mono (vj_X12_touchDrop_36 L hN (a0 := a0) (x1 := x1) (x2 := x2) (x3 := x3) (x4 := x4) (xs0 := (1 : Int32)) (x5v := vx13) (x6v := vx26) hT k_a0 (show 2 ≤ (x2).toInt by first | assumption | omega) (show (x2).toInt ≤ 16 by first | assumption | omega) (show 0 ≤ (x3).toInt by first | assumption | omega) (show (x3).toInt ≤ (x4).toInt by first | assumption | omega) (show (x4).toInt ≤ (x3).toInt + 2000 by first | assumption | omega) (show (x4).toInt ≤ (q_I δ 12 36 a0).toInt by first | assumption | omega) (show (q_I δ 12 36 a0).toInt ≤ 12000 by first | assumption | omega) (show 1 < (x2).toInt → (q_I δ 12 36 a0).toInt ≤ 10000 by first | assumption | omega) (show 2 < (x2).toInt → (q_I δ 12 36 a0).toInt ≤ 8000 by first | assumption | omega) (show 4 < (x2).toInt → (q_I δ 12 36 a0).toInt ≤ 6000 by first | assumption | omega) (show 8 < (x2).toInt → (q_I δ 12 36 a0).toInt ≤ 4000 by first | assumption | omega) (show (x2).toInt ≤ K by first | assumption | omega) (show (x3).toInt < (x4).toInt by first | assumption | omega) (show (1 : Int) = 0 ∨ (1 : Int) = 1 by first | assumption | omega) I A) (fun r34 r34p hr35 => ?_)
    obtain ⟨hq40, ha41, hb42⟩ := hr35
    obtain ⟨i36, ⟨u43, u44, u45⟩, p37, p38, p39⟩ := hq40
    have u46 := kp_t kp_r u43
    have v47 : q_V r34.2 = q_V δ := (u44).trans rfl
    have v48 := kr_t (kr_r (ad := ad)) u45
    have f49 := cb_12_36 i36 k_a0
    have f50 := ti_b r34.1
    have f51 := ti_b r34.1
    exact ⟨⟨by assumption, ⟨kp_w (by decide) u46, v47, kr_w (by decide) v48⟩, by first | assumption | omega, by first | assumption | omega, by first | assumption | omega⟩, ha41, hb42⟩
  · have c52 : x1.toInt ≠ vx13.toInt := o_ne h32
    refine ok2_ite (fun h53 => ?_) (fun h53 => ?_)
    · have c54 : x1.toInt = vx26.toInt := o_eq h53
      unfold J_X12_touchDrop_31
      try rw [A.1]
      try rw [A.2.1]
      try rw [A.2.2.1]
      try rw [A.2.2.2.1]
      refine ok2_mono (vj_X12_touchDrop_36 L hN (a0 := a0) (x1 := x1) (x2 := x2) (x3 := x3) (x4 := x4) (xs0 := (1 : Int32)) (x5v := vx13) (x6v := vx26) hT k_a0 (show 2 ≤ (x2).toInt by first | assumption | omega) (show (x2).toInt ≤ 16 by first | assumption | omega) (show 0 ≤ (x3).toInt by first | assumption | omega) (show (x3).toInt ≤ (x4).toInt by first | assumption | omega) (show (x4).toInt ≤ (x3).toInt + 2000 by first | assumption | omega) (show (x4).toInt ≤ (q_I δ 12 36 a0).toInt by first | assumption | omega) (show (q_I δ 12 36 a0).toInt ≤ 12000 by first | assumption | omega) (show 1 < (x2).toInt → (q_I δ 12 36 a0).toInt ≤ 10000 by first | assumption | omega) (show 2 < (x2).toInt → (q_I δ 12 36 a0).toInt ≤ 8000 by first | assumption | omega) (show 4 < (x2).toInt → (q_I δ 12 36 a0).toInt ≤ 6000 by first | assumption | omega) (show 8 < (x2).toInt → (q_I δ 12 36 a0).toInt ≤ 4000 by first | assumption | omega) (show (x2).toInt ≤ K by first | assumption | omega) (show (x3).toInt < (x4).toInt by first | assumption | omega) (show (1 : Int) = 0 ∨ (1 : Int) = 1 by first | assumption | omega) I A) (fun r55 r55p hr56 => ?_)
      obtain ⟨hq61, ha62, hb63⟩ := hr56
      obtain ⟨i57, ⟨u64, u65, u66⟩, p58, p59, p60⟩ := hq61
      have u67 := kp_t kp_r u64
      have v68 : q_V r55.2 = q_V δ := (u65).trans rfl
      have v69 := kr_t (kr_r (ad := ad)) u66
      have f70 := cb_12_36 i57 k_a0
      have f71 := ti_b r55.1
      have f72 := ti_b r55.1
      exact ⟨⟨by assumption, ⟨kp_w (by decide) u67, v68, kr_w (by decide) v69⟩, by first | assumption | omega, by first | assumption | omega, by first | assumption | omega⟩, ha62, hb63⟩
    · have c73 : x1.toInt ≠ vx26.toInt := o_ne h53
      refine ok2_mono (vj_X12_touchDrop_36 L hN (a0 := a0) (x1 := x1) (x2 := x2) (x3 := x3) (x4 := x4) (xs0 := (0 : Int32)) (x5v := vx13) (x6v := vx26) hT k_a0 (show 2 ≤ (x2).toInt by first | assumption | omega) (show (x2).toInt ≤ 16 by first | assumption | omega) (show 0 ≤ (x3).toInt by first | assumption | omega) (show (x3).toInt ≤ (x4).toInt by first | assumption | omega) (show (x4).toInt ≤ (x3).toInt + 2000 by first | assumption | omega) (show (x4).toInt ≤ (q_I δ 12 36 a0).toInt by first | assumption | omega) (show (q_I δ 12 36 a0).toInt ≤ 12000 by first | assumption | omega) (show 1 < (x2).toInt → (q_I δ 12 36 a0).toInt ≤ 10000 by first | assumption | omega) (show 2 < (x2).toInt → (q_I δ 12 36 a0).toInt ≤ 8000 by first | assumption | omega) (show 4 < (x2).toInt → (q_I δ 12 36 a0).toInt ≤ 6000 by first | assumption | omega) (show 8 < (x2).toInt → (q_I δ 12 36 a0).toInt ≤ 4000 by first | assumption | omega) (show (x2).toInt ≤ K by first | assumption | omega) (show (x3).toInt < (x4).toInt by first | assumption | omega) (show (0 : Int) = 0 ∨ (0 : Int) = 1 by first | assumption | omega) I A) (fun r74 r74p hr75 => ?_)
      obtain ⟨hq80, ha81, hb82⟩ := hr75
      obtain ⟨i76, ⟨u83, u84, u85⟩, p77, p78, p79⟩ := hq80
      have u86 := kp_t kp_r u83
      have v87 : q_V r74.2 = q_V δ := (u84).trans rfl
      have v88 := kr_t (kr_r (ad := ad)) u85
      have f89 := cb_12_36 i76 k_a0
      have f90 := ti_b r74.1
      have f91 := ti_b r74.1
      exact ⟨⟨by assumption, ⟨kp_w (by decide) u86, v87, kr_w (by decide) v88⟩, by first | assumption | omega, by first | assumption | omega, by first | assumption | omega⟩, ha81, hb82⟩
set_option maxHeartbeats 4000000 in
theorem vj_X12_touch_267 {ad : List Nat} {h : hp} (L : Lay TLx ad h) {δ0 : dp} {N : Nat} (hN : 10000000 ≤ N) {T : Nat → Int32 → Int32 → Int32 → Int32 → Int32 → dp → Option (Int32 × dp)} {K : Int} (hT : ∀ (a0 : Nat) (x1 : Int32) (x2 : Int32) (x3 : Int32) (x4 : Int32) (x5 : Int32) (δ : dp) (δp : dp), q_K h.1 a0 = 12 → 1 ≤ (x3).toInt → (x3).toInt ≤ 16 → 0 ≤ (x4).toInt → (x4).toInt ≤ (x5).toInt → (x5).toInt ≤ (x4).toInt + 2000 → (x5).toInt ≤ (q_I δ 12 36 a0).toInt → (q_I δ 12 36 a0).toInt ≤ 12000 → (1 < (x3).toInt → (q_I δ 12 36 a0).toInt ≤ 10000) → (2 < (x3).toInt → (q_I δ 12 36 a0).toInt ≤ 8000) → (4 < (x3).toInt → (q_I δ 12 36 a0).toInt ≤ 6000) → (8 < (x3).toInt → (q_I δ 12 36 a0).toInt ≤ 4000) → (x3).toInt < K → RI ad h.1 δ0 δ → AG ad a0 δ δp → ok2 (T a0 x1 x2 x3 x4 x5 δ) (T a0 x1 x2 x3 x4 x5 δp) (fun r rp => (RI ad h.1 δ0 r.2 ∧ (kp [(12, 36)] δ r.2 ∧ q_V r.2 = q_V δ ∧ kr ad [119] δ r.2) ∧ (q_I r.2 12 36 a0).toInt = (q_I δ 12 36 a0).toInt ∧ 1 ≤ (r.1).toInt ∧ (r.1).toInt ≤ 4 * (x3).toInt - 3) ∧ AG ad a0 r.2 rp.2 ∧ rp.1 = r.1)) {a0 : Nat} {x1 : Int32} {x2 : Int32} {x3 : Int32} {x4 : Int32} {x5 : Int32} {x9v : Int32} {x10v : Int32} (k_a0 : q_K h.1 a0 = 12) {δ δp : dp} (z0 : 2 ≤ (x3).toInt) (z1 : (x3).toInt ≤ 16) (z2 : 0 ≤ (x4).toInt) (z3 : (x4).toInt ≤ (x5).toInt) (z4 : (x5).toInt ≤ (x4).toInt + 2000) (z5 : (x5).toInt ≤ (q_I δ 12 36 a0).toInt) (z6 : (q_I δ 12 36 a0).toInt ≤ 12000) (z7 : 1 < (x3).toInt → (q_I δ 12 36 a0).toInt ≤ 10000) (z8 : 2 < (x3).toInt → (q_I δ 12 36 a0).toInt ≤ 8000) (z9 : 4 < (x3).toInt → (q_I δ 12 36 a0).toInt ≤ 6000) (z10 : 8 < (x3).toInt → (q_I δ 12 36 a0).toInt ≤ 4000) (z11 : (x3).toInt ≤ K) (z12 : (x4).toInt < (x5).toInt) (z13 : (x4).toInt + 3 ≤ (x5).toInt) (z14 : 1 ≤ (x9v).toInt) (z15 : (x9v).toInt ≤ 2) (I : RI ad h.1 δ0 δ) (A : AG ad a0 δ δp) : ok2 (J_X12_touch_267 N h.1 T a0 x1 x2 x3 x4 x5 x9v x10v δ) (J_X12_touch_267 N h.1 T a0 x1 x2 x3 x4 x5 x9v x10v δp) (fun r rp => (RI ad h.1 δ0 r.2 ∧ (kp [(12, 36)] δ r.2 ∧ q_V r.2 = q_V δ ∧ kr ad [119] δ r.2) ∧ (q_I r.2 12 36 a0).toInt = (q_I δ 12 36 a0).toInt ∧ 1 ≤ (r.1).toInt ∧ (r.1).toInt ≤ 4 * (x3).toInt - 3) ∧ AG ad a0 r.2 rp.2 ∧ rp.1 = r.1) := by
  unfold J_X12_touch_267
  have f1 := ti_b x3
  have f2 := ti_b x4
  have f3 := ti_b x5
  have f4 := cb_12_36 I k_a0
  have f5 := ti_b x9v
  try rw [A.1]
  try rw [A.2.1]
  try rw [A.2.2.1]
  try rw [A.2.2.2.1]
  have f6 := ti_b x1
  refine ok2_ite (fun h7 => ?_) (fun h7 => ?_)
  · have c8 : x1.toInt = (3 : Int) := o_eq h7
    obtain ⟨b9, o10, k11, n12, w13⟩ := gO_12_35 L k_a0
    obtain rfl := gS_12_35 L k_a0 o10
    refine ok2_at o10 ?_
    first | (have q15 := te_subc (c := 2) (n := 2) rfl x5 (by omega) (by omega); obtain ⟨f16, f17, f18⟩ := q15) | (obtain ⟨q15, f16, f17, f18⟩ := ti_subc (c := 2) (n := 2) rfl x5)
    have t19 := ti_tn (x5 - (2 : Int32))
    refine ok2_gd (fun hc20 => ?_) ?_
    · rcases hc20 with hc20 | hc20
      · have c21 : (x5 - (2 : Int32)).toInt < (0 : Int) := o_lt hc20
        omega
      · omega
    have hq22 : q_R δp (Ad ad 119) (x5 - (2 : Int32)).toNatClampNeg = q_R δ (Ad ad 119) (x5 - (2 : Int32)).toNatClampNeg := A.2.2.2.2 _ (by omega)
    try rw [hq22]
    have f23 := ti_b ((q_R δ (Ad ad 119) (x5 - (2 : Int32)).toNatClampNeg) >>> (x10v &&& 31))
    have f24 := ti_b (x2 >>> (x10v &&& 31))
    refine ok2_ite (fun h25 => ?_) (fun h25 => ?_)
    · have c26 : ((q_R δ (Ad ad 119) (x5 - (2 : Int32)).toNatClampNeg) >>> (x10v &&& 31)).toInt ≤ (x2 >>> (x10v &&& 31)).toInt := o_le h25
      unfold J_X12_touch_323
      try rw [A.1]
      try rw [A.2.1]
      try rw [A.2.2.1]
      try rw [A.2.2.2.1]
      refine ok2_bind (v_bX12_inList L hN (a0 := a0) (x1 := x1) (x2 := x2) (x3 := x3) (x4 := x4) (x5 := x5) hT k_a0 (show 2 ≤ (x3).toInt by first | assumption | omega) (show (x3).toInt ≤ 16 by first | assumption | omega) (show 0 ≤ (x4).toInt by first | assumption | omega) (show (x4).toInt ≤ (x5).toInt by first | assumption | omega) (show (x5).toInt ≤ (x4).toInt + 2000 by first | assumption | omega) (show (x5).toInt ≤ (q_I δ 12 36 a0).toInt by first | assumption | omega) (show (q_I δ 12 36 a0).toInt ≤ 12000 by first | assumption | omega) (show 1 < (x3).toInt → (q_I δ 12 36 a0).toInt ≤ 10000 by first | assumption | omega) (show 2 < (x3).toInt → (q_I δ 12 36 a0).toInt ≤ 8000 by first | assumption | omega) (show 4 < (x3).toInt → (q_I δ 12 36 a0).toInt ≤ 6000 by first | assumption | omega) (show 8 < (x3).toInt → (q_I δ 12 36 a0).toInt ≤ 4000 by first | assumption | omega) (show (x3).toInt ≤ K by first | assumption | omega) I A) (fun r27 r27p hr28 => ?_)
      obtain ⟨hq34, ha35, hb36⟩ := hr28
      try rw [hb36]
      obtain ⟨i29, ⟨u37, u38, u39⟩, p30, p31, p32, p33⟩ := hq34
      have u40 := kp_t kp_r u37
      have v41 : q_V r27.2 = q_V δ := (u38).trans rfl
      have v42 := kr_t (kr_r (ad := ad)) u39
      try rw [ha35.1]
      try rw [ha35.2.1]
      try rw [ha35.2.2.1]
      try rw [ha35.2.2.2.1]
      have f43 := cb_12_36 i29 k_a0
      have f44 := ti_b r27.1
      have f45 := cb_12_12 I k_a0
      have f46 := ti_b r27.1
      refine ok2_ite (fun h47 => ?_) (fun h47 => ?_)
      · have c48 : (0 : Int) = (0 : Int) := o_eq h47
        unfold J_X12_touch_349
        try rw [ha35.1]
        try rw [ha35.2.1]
        try rw [ha35.2.2.1]
        try rw [ha35.2.2.2.1]
        first | (have q50 := te_add x9v r27.1 (by omega) (by omega); obtain ⟨f51, f52, f53⟩ := q50) | (obtain ⟨q50, f51, f52, f53⟩ := ti_add x9v r27.1)
        first | (have q55 := te_addc (c := 0) (n := 0) rfl (x9v + r27.1) (by omega) (by omega); obtain ⟨f56, f57, f58⟩ := q55) | (obtain ⟨q55, f56, f57, f58⟩ := ti_addc (c := 0) (n := 0) rfl (x9v + r27.1))
        exact ok2_some (show (RI ad h.1 δ0 r27.2 ∧ (kp [(12, 36)] δ r27.2 ∧ q_V r27.2 = q_V δ ∧ kr ad [119] δ r27.2) ∧ (q_I r27.2 12 36 a0).toInt = (q_I δ 12 36 a0).toInt ∧ 1 ≤ (((x9v + r27.1) + (0 : Int32))).toInt ∧ (((x9v + r27.1) + (0 : Int32))).toInt ≤ 4 * (x3).toInt - 3) ∧ AG ad a0 r27.2 r27p.2 ∧ ((x9v + r27.1) + (0 : Int32)) = ((x9v + r27.1) + (0 : Int32)) from ⟨⟨i29, ⟨kp_w (by decide) u40, v41, kr_w (by decide) v42⟩, by first | assumption | omega, by first | assumption | omega, by first | assumption | omega⟩, ha35, rfl⟩)
      · have c59 : (0 : Int) ≠ (0 : Int) := o_ne h47
        unfold J_X12_touch_349
        try rw [ha35.1]
        try rw [ha35.2.1]
        try rw [ha35.2.2.1]
        try rw [ha35.2.2.2.1]
        first | (have q61 := te_add x9v r27.1 (by omega) (by omega); obtain ⟨f62, f63, f64⟩ := q61) | (obtain ⟨q61, f62, f63, f64⟩ := ti_add x9v r27.1)
        first | (have q66 := te_addc (c := 1) (n := 1) rfl (x9v + r27.1) (by omega) (by omega); obtain ⟨f67, f68, f69⟩ := q66) | (obtain ⟨q66, f67, f68, f69⟩ := ti_addc (c := 1) (n := 1) rfl (x9v + r27.1))
        exact ok2_some (show (RI ad h.1 δ0 r27.2 ∧ (kp [(12, 36)] δ r27.2 ∧ q_V r27.2 = q_V δ ∧ kr ad [119] δ r27.2) ∧ (q_I r27.2 12 36 a0).toInt = (q_I δ 12 36 a0).toInt ∧ 1 ≤ (((x9v + r27.1) + (1 : Int32))).toInt ∧ (((x9v + r27.1) + (1 : Int32))).toInt ≤ 4 * (x3).toInt - 3) ∧ AG ad a0 r27.2 r27p.2 ∧ ((x9v + r27.1) + (1 : Int32)) = ((x9v + r27.1) + (1 : Int32)) from ⟨⟨i29, ⟨kp_w (by decide) u40, v41, kr_w (by decide) v42⟩, by first | assumption | omega, by first | assumption | omega, by first | assumption | omega⟩, ha35, rfl⟩)
    · have c70 : (x2 >>> (x10v &&& 31)).toInt < ((q_R δ (Ad ad 119) (x5 - (2 : Int32)).toNatClampNeg) >>> (x10v &&& 31)).toInt := o_nle h25
      unfold J_X12_touch_323
      try rw [A.1]
      try rw [A.2.1]
      try rw [A.2.2.1]
      try rw [A.2.2.2.1]
      refine ok2_bind (v_bX12_inList L hN (a0 := a0) (x1 := x1) (x2 := x2) (x3 := x3) (x4 := x4) (x5 := x5) hT k_a0 (show 2 ≤ (x3).toInt by first | assumption | omega) (show (x3).toInt ≤ 16 by first | assumption | omega) (show 0 ≤ (x4).toInt by first | assumption | omega) (show (x4).toInt ≤ (x5).toInt by first | assumption | omega) (show (x5).toInt ≤ (x4).toInt + 2000 by first | assumption | omega) (show (x5).toInt ≤ (q_I δ 12 36 a0).toInt by first | assumption | omega) (show (q_I δ 12 36 a0).toInt ≤ 12000 by first | assumption | omega) (show 1 < (x3).toInt → (q_I δ 12 36 a0).toInt ≤ 10000 by first | assumption | omega) (show 2 < (x3).toInt → (q_I δ 12 36 a0).toInt ≤ 8000 by first | assumption | omega) (show 4 < (x3).toInt → (q_I δ 12 36 a0).toInt ≤ 6000 by first | assumption | omega) (show 8 < (x3).toInt → (q_I δ 12 36 a0).toInt ≤ 4000 by first | assumption | omega) (show (x3).toInt ≤ K by first | assumption | omega) I A) (fun r71 r71p hr72 => ?_)
      obtain ⟨hq78, ha79, hb80⟩ := hr72
      try rw [hb80]
      obtain ⟨i73, ⟨u81, u82, u83⟩, p74, p75, p76, p77⟩ := hq78
      have u84 := kp_t kp_r u81
      have v85 : q_V r71.2 = q_V δ := (u82).trans rfl
      have v86 := kr_t (kr_r (ad := ad)) u83
      try rw [ha79.1]
      try rw [ha79.2.1]
      try rw [ha79.2.2.1]
      try rw [ha79.2.2.2.1]
      have f87 := cb_12_36 i73 k_a0
      have f88 := ti_b r71.1
      have f89 := cb_12_12 I k_a0
      have f90 := ti_b r71.1
      refine ok2_ite (fun h91 => ?_) (fun h91 => ?_)
      · have c92 : (1 : Int) = (0 : Int) := o_eq h91
        unfold J_X12_touch_349
        try rw [ha79.1]
        try rw [ha79.2.1]
        try rw [ha79.2.2.1]
        try rw [ha79.2.2.2.1]
        first | (have q94 := te_add x9v r71.1 (by omega) (by omega); obtain ⟨f95, f96, f97⟩ := q94) | (obtain ⟨q94, f95, f96, f97⟩ := ti_add x9v r71.1)
        first | (have q99 := te_addc (c := 0) (n := 0) rfl (x9v + r71.1) (by omega) (by omega); obtain ⟨f100, f101, f102⟩ := q99) | (obtain ⟨q99, f100, f101, f102⟩ := ti_addc (c := 0) (n := 0) rfl (x9v + r71.1))
        exact ok2_some (show (RI ad h.1 δ0 r71.2 ∧ (kp [(12, 36)] δ r71.2 ∧ q_V r71.2 = q_V δ ∧ kr ad [119] δ r71.2) ∧ (q_I r71.2 12 36 a0).toInt = (q_I δ 12 36 a0).toInt ∧ 1 ≤ (((x9v + r71.1) + (0 : Int32))).toInt ∧ (((x9v + r71.1) + (0 : Int32))).toInt ≤ 4 * (x3).toInt - 3) ∧ AG ad a0 r71.2 r71p.2 ∧ ((x9v + r71.1) + (0 : Int32)) = ((x9v + r71.1) + (0 : Int32)) from ⟨⟨i73, ⟨kp_w (by decide) u84, v85, kr_w (by decide) v86⟩, by first | assumption | omega, by first | assumption | omega, by first | assumption | omega⟩, ha79, rfl⟩)
      · have c103 : (1 : Int) ≠ (0 : Int) := o_ne h91
        unfold J_X12_touch_349
        try rw [ha79.1]
        try rw [ha79.2.1]
        try rw [ha79.2.2.1]
        try rw [ha79.2.2.2.1]
        first | (have q105 := te_add x9v r71.1 (by omega) (by omega); obtain ⟨f106, f107, f108⟩ := q105) | (obtain ⟨q105, f106, f107, f108⟩ := ti_add x9v r71.1)
        first | (have q110 := te_addc (c := 1) (n := 1) rfl (x9v + r71.1) (by omega) (by omega); obtain ⟨f111, f112, f113⟩ := q110) | (obtain ⟨q110, f111, f112, f113⟩ := ti_addc (c := 1) (n := 1) rfl (x9v + r71.1))
        exact ok2_some (show (RI ad h.1 δ0 r71.2 ∧ (kp [(12, 36)] δ r71.2 ∧ q_V r71.2 = q_V δ ∧ kr ad [119] δ r71.2) ∧ (q_I r71.2 12 36 a0).toInt = (q_I δ 12 36 a0).toInt ∧ 1 ≤ (((x9v + r71.1) + (1 : Int32))).toInt ∧ (((x9v + r71.1) + (1 : Int32))).toInt ≤ 4 * (x3).toInt - 3) ∧ AG ad a0 r71.2 r71p.2 ∧ ((x9v + r71.1) + (1 : Int32)) = ((x9v + r71.1) + (1 : Int32)) from ⟨⟨i73, ⟨kp_w (by decide) u84, v85, kr_w (by decide) v86⟩, by first | assumption | omega, by first | assumption | omega, by first | assumption | omega⟩, ha79, rfl⟩)
  · have c114 : x1.toInt ≠ (3 : Int) := o_ne h7
    obtain ⟨b115, o116, k117, n118, w119⟩ := gO_12_35 L k_a0
    obtain rfl := gS_12_35 L k_a0 o116
    refine ok2_at o116 ?_
    first | (have q121 := te_addc (c := 1) (n := 1) rfl x4 (by omega) (by omega); obtain ⟨f122, f123, f124⟩ := q121) | (obtain ⟨q121, f122, f123, f124⟩ := ti_addc (c := 1) (n := 1) rfl x4)
    have t125 := ti_tn (x4 + (1 : Int32))
    refine ok2_gd (fun hc126 => ?_) ?_
    · rcases hc126 with hc126 | hc126
      · have c127 : (x4 + (1 : Int32)).toInt < (0 : Int) := o_lt hc126
        omega
      · omega
    have hq128 : q_R δp (Ad ad 119) (x4 + (1 : Int32)).toNatClampNeg = q_R δ (Ad ad 119) (x4 + (1 : Int32)).toNatClampNeg := A.2.2.2.2 _ (by omega)
    try rw [hq128]
    have f129 := ti_b (x2 >>> (x10v &&& 31))
    have f130 := ti_b ((q_R δ (Ad ad 119) (x4 + (1 : Int32)).toNatClampNeg) >>> (x10v &&& 31))
    refine ok2_ite (fun h131 => ?_) (fun h131 => ?_)
    · have c132 : (x2 >>> (x10v &&& 31)).toInt ≤ ((q_R δ (Ad ad 119) (x4 + (1 : Int32)).toNatClampNeg) >>> (x10v &&& 31)).toInt := o_le h131
      unfold J_X12_touch_323
      try rw [A.1]
      try rw [A.2.1]
      try rw [A.2.2.1]
      try rw [A.2.2.2.1]
      refine ok2_bind (v_bX12_inList L hN (a0 := a0) (x1 := x1) (x2 := x2) (x3 := x3) (x4 := x4) (x5 := x5) hT k_a0 (show 2 ≤ (x3).toInt by first | assumption | omega) (show (x3).toInt ≤ 16 by first | assumption | omega) (show 0 ≤ (x4).toInt by first | assumption | omega) (show (x4).toInt ≤ (x5).toInt by first | assumption | omega) (show (x5).toInt ≤ (x4).toInt + 2000 by first | assumption | omega) (show (x5).toInt ≤ (q_I δ 12 36 a0).toInt by first | assumption | omega) (show (q_I δ 12 36 a0).toInt ≤ 12000 by first | assumption | omega) (show 1 < (x3).toInt → (q_I δ 12 36 a0).toInt ≤ 10000 by first | assumption | omega) (show 2 < (x3).toInt → (q_I δ 12 36 a0).toInt ≤ 8000 by first | assumption | omega) (show 4 < (x3).toInt → (q_I δ 12 36 a0).toInt ≤ 6000 by first | assumption | omega) (show 8 < (x3).toInt → (q_I δ 12 36 a0).toInt ≤ 4000 by first | assumption | omega) (show (x3).toInt ≤ K by first | assumption | omega) I A) (fun r133 r133p hr134 => ?_)
      obtain ⟨hq140, ha141, hb142⟩ := hr134
      try rw [hb142]
      obtain ⟨i135, ⟨u143, u144, u145⟩, p136, p137, p138, p139⟩ := hq140
      have u146 := kp_t kp_r u143
      have v147 : q_V r133.2 = q_V δ := (u144).trans rfl
      have v148 := kr_t (kr_r (ad := ad)) u145
      try rw [ha141.1]
      try rw [ha141.2.1]
      try rw [ha141.2.2.1]
      try rw [ha141.2.2.2.1]
      have f149 := cb_12_36 i135 k_a0
      have f150 := ti_b r133.1
      have f151 := cb_12_12 I k_a0
      have f152 := ti_b r133.1
      refine ok2_ite (fun h153 => ?_) (fun h153 => ?_)
      · have c154 : (0 : Int) = (0 : Int) := o_eq h153
        unfold J_X12_touch_349
        try rw [ha141.1]
        try rw [ha141.2.1]
        try rw [ha141.2.2.1]
        try rw [ha141.2.2.2.1]
        first | (have q156 := te_add x9v r133.1 (by omega) (by omega); obtain ⟨f157, f158, f159⟩ := q156) | (obtain ⟨q156, f157, f158, f159⟩ := ti_add x9v r133.1)
        first | (have q161 := te_addc (c := 0) (n := 0) rfl (x9v + r133.1) (by omega) (by omega); obtain ⟨f162, f163, f164⟩ := q161) | (obtain ⟨q161, f162, f163, f164⟩ := ti_addc (c := 0) (n := 0) rfl (x9v + r133.1))
        exact ok2_some (show (RI ad h.1 δ0 r133.2 ∧ (kp [(12, 36)] δ r133.2 ∧ q_V r133.2 = q_V δ ∧ kr ad [119] δ r133.2) ∧ (q_I r133.2 12 36 a0).toInt = (q_I δ 12 36 a0).toInt ∧ 1 ≤ (((x9v + r133.1) + (0 : Int32))).toInt ∧ (((x9v + r133.1) + (0 : Int32))).toInt ≤ 4 * (x3).toInt - 3) ∧ AG ad a0 r133.2 r133p.2 ∧ ((x9v + r133.1) + (0 : Int32)) = ((x9v + r133.1) + (0 : Int32)) from ⟨⟨i135, ⟨kp_w (by decide) u146, v147, kr_w (by decide) v148⟩, by first | assumption | omega, by first | assumption | omega, by first | assumption | omega⟩, ha141, rfl⟩)
      · have c165 : (0 : Int) ≠ (0 : Int) := o_ne h153
        unfold J_X12_touch_349
        try rw [ha141.1]
        try rw [ha141.2.1]
        try rw [ha141.2.2.1]
        try rw [ha141.2.2.2.1]
        first | (have q167 := te_add x9v r133.1 (by omega) (by omega); obtain ⟨f168, f169, f170⟩ := q167) | (obtain ⟨q167, f168, f169, f170⟩ := ti_add x9v r133.1)
        first | (have q172 := te_addc (c := 1) (n := 1) rfl (x9v + r133.1) (by omega) (by omega); obtain ⟨f173, f174, f175⟩ := q172) | (obtain ⟨q172, f173, f174, f175⟩ := ti_addc (c := 1) (n := 1) rfl (x9v + r133.1))
        exact ok2_some (show (RI ad h.1 δ0 r133.2 ∧ (kp [(12, 36)] δ r133.2 ∧ q_V r133.2 = q_V δ ∧ kr ad [119] δ r133.2) ∧ (q_I r133.2 12 36 a0).toInt = (q_I δ 12 36 a0).toInt ∧ 1 ≤ (((x9v + r133.1) + (1 : Int32))).toInt ∧ (((x9v + r133.1) + (1 : Int32))).toInt ≤ 4 * (x3).toInt - 3) ∧ AG ad a0 r133.2 r133p.2 ∧ ((x9v + r133.1) + (1 : Int32)) = ((x9v + r133.1) + (1 : Int32)) from ⟨⟨i135, ⟨kp_w (by decide) u146, v147, kr_w (by decide) v148⟩, by first | assumption | omega, by first | assumption | omega, by first | assumption | omega⟩, ha141, rfl⟩)
    · have c176 : ((q_R δ (Ad ad 119) (x4 + (1 : Int32)).toNatClampNeg) >>> (x10v &&& 31)).toInt < (x2 >>> (x10v &&& 31)).toInt := o_nle h131
      unfold J_X12_touch_323
      try rw [A.1]
      try rw [A.2.1]
      try rw [A.2.2.1]
      try rw [A.2.2.2.1]
      refine ok2_bind (v_bX12_inList L hN (a0 := a0) (x1 := x1) (x2 := x2) (x3 := x3) (x4 := x4) (x5 := x5) hT k_a0 (show 2 ≤ (x3).toInt by first | assumption | omega) (show (x3).toInt ≤ 16 by first | assumption | omega) (show 0 ≤ (x4).toInt by first | assumption | omega) (show (x4).toInt ≤ (x5).toInt by first | assumption | omega) (show (x5).toInt ≤ (x4).toInt + 2000 by first | assumption | omega) (show (x5).toInt ≤ (q_I δ 12 36 a0).toInt by first | assumption | omega) (show (q_I δ 12 36 a0).toInt ≤ 12000 by first | assumption | omega) (show 1 < (x3).toInt → (q_I δ 12 36 a0).toInt ≤ 10000 by first | assumption | omega) (show 2 < (x3).toInt → (q_I δ 12 36 a0).toInt ≤ 8000 by first | assumption | omega) (show 4 < (x3).toInt → (q_I δ 12 36 a0).toInt ≤ 6000 by first | assumption | omega) (show 8 < (x3).toInt → (q_I δ 12 36 a0).toInt ≤ 4000 by first | assumption | omega) (show (x3).toInt ≤ K by first | assumption | omega) I A) (fun r177 r177p hr178 => ?_)
      obtain ⟨hq184, ha185, hb186⟩ := hr178
      try rw [hb186]
      obtain ⟨i179, ⟨u187, u188, u189⟩, p180, p181, p182, p183⟩ := hq184
      have u190 := kp_t kp_r u187
      have v191 : q_V r177.2 = q_V δ := (u188).trans rfl
      have v192 := kr_t (kr_r (ad := ad)) u189
      try rw [ha185.1]
      try rw [ha185.2.1]
      try rw [ha185.2.2.1]
      try rw [ha185.2.2.2.1]
      have f193 := cb_12_36 i179 k_a0
      have f194 := ti_b r177.1
      have f195 := cb_12_12 I k_a0
      have f196 := ti_b r177.1
      refine ok2_ite (fun h197 => ?_) (fun h197 => ?_)
      · have c198 : (1 : Int) = (0 : Int) := o_eq h197
        unfold J_X12_touch_349
        try rw [ha185.1]
        try rw [ha185.2.1]
        try rw [ha185.2.2.1]
        try rw [ha185.2.2.2.1]
        first | (have q200 := te_add x9v r177.1 (by omega) (by omega); obtain ⟨f201, f202, f203⟩ := q200) | (obtain ⟨q200, f201, f202, f203⟩ := ti_add x9v r177.1)
        first | (have q205 := te_addc (c := 0) (n := 0) rfl (x9v + r177.1) (by omega) (by omega); obtain ⟨f206, f207, f208⟩ := q205) | (obtain ⟨q205, f206, f207, f208⟩ := ti_addc (c := 0) (n := 0) rfl (x9v + r177.1))
        exact ok2_some (show (RI ad h.1 δ0 r177.2 ∧ (kp [(12, 36)] δ r177.2 ∧ q_V r177.2 = q_V δ ∧ kr ad [119] δ r177.2) ∧ (q_I r177.2 12 36 a0).toInt = (q_I δ 12 36 a0).toInt ∧ 1 ≤ (((x9v + r177.1) + (0 : Int32))).toInt ∧ (((x9v + r177.1) + (0 : Int32))).toInt ≤ 4 * (x3).toInt - 3) ∧ AG ad a0 r177.2 r177p.2 ∧ ((x9v + r177.1) + (0 : Int32)) = ((x9v + r177.1) + (0 : Int32)) from ⟨⟨i179, ⟨kp_w (by decide) u190, v191, kr_w (by decide) v192⟩, by first | assumption | omega, by first | assumption | omega, by first | assumption | omega⟩, ha185, rfl⟩)
      · have c209 : (1 : Int) ≠ (0 : Int) := o_ne h197
        unfold J_X12_touch_349
        try rw [ha185.1]
        try rw [ha185.2.1]
        try rw [ha185.2.2.1]
        try rw [ha185.2.2.2.1]
        first | (have q211 := te_add x9v r177.1 (by omega) (by omega); obtain ⟨f212, f213, f214⟩ := q211) | (obtain ⟨q211, f212, f213, f214⟩ := ti_add x9v r177.1)
        first | (have q216 := te_addc (c := 1) (n := 1) rfl (x9v + r177.1) (by omega) (by omega); obtain ⟨f217, f218, f219⟩ := q216) | (obtain ⟨q216, f217, f218, f219⟩ := ti_addc (c := 1) (n := 1) rfl (x9v + r177.1))
        exact ok2_some (show (RI ad h.1 δ0 r177.2 ∧ (kp [(12, 36)] δ r177.2 ∧ q_V r177.2 = q_V δ ∧ kr ad [119] δ r177.2) ∧ (q_I r177.2 12 36 a0).toInt = (q_I δ 12 36 a0).toInt ∧ 1 ≤ (((x9v + r177.1) + (1 : Int32))).toInt ∧ (((x9v + r177.1) + (1 : Int32))).toInt ≤ 4 * (x3).toInt - 3) ∧ AG ad a0 r177.2 r177p.2 ∧ ((x9v + r177.1) + (1 : Int32)) = ((x9v + r177.1) + (1 : Int32)) from ⟨⟨i179, ⟨kp_w (by decide) u190, v191, kr_w (by decide) v192⟩, by first | assumption | omega, by first | assumption | omega, by first | assumption | omega⟩, ha185, rfl⟩)
set_option maxHeartbeats 4000000 in
theorem vj_X12_touch_158 {ad : List Nat} {h : hp} (L : Lay TLx ad h) {δ0 : dp} {N : Nat} (hN : 10000000 ≤ N) {T : Nat → Int32 → Int32 → Int32 → Int32 → Int32 → dp → Option (Int32 × dp)} {K : Int} (hT : ∀ (a0 : Nat) (x1 : Int32) (x2 : Int32) (x3 : Int32) (x4 : Int32) (x5 : Int32) (δ : dp) (δp : dp), q_K h.1 a0 = 12 → 1 ≤ (x3).toInt → (x3).toInt ≤ 16 → 0 ≤ (x4).toInt → (x4).toInt ≤ (x5).toInt → (x5).toInt ≤ (x4).toInt + 2000 → (x5).toInt ≤ (q_I δ 12 36 a0).toInt → (q_I δ 12 36 a0).toInt ≤ 12000 → (1 < (x3).toInt → (q_I δ 12 36 a0).toInt ≤ 10000) → (2 < (x3).toInt → (q_I δ 12 36 a0).toInt ≤ 8000) → (4 < (x3).toInt → (q_I δ 12 36 a0).toInt ≤ 6000) → (8 < (x3).toInt → (q_I δ 12 36 a0).toInt ≤ 4000) → (x3).toInt < K → RI ad h.1 δ0 δ → AG ad a0 δ δp → ok2 (T a0 x1 x2 x3 x4 x5 δ) (T a0 x1 x2 x3 x4 x5 δp) (fun r rp => (RI ad h.1 δ0 r.2 ∧ (kp [(12, 36)] δ r.2 ∧ q_V r.2 = q_V δ ∧ kr ad [119] δ r.2) ∧ (q_I r.2 12 36 a0).toInt = (q_I δ 12 36 a0).toInt ∧ 1 ≤ (r.1).toInt ∧ (r.1).toInt ≤ 4 * (x3).toInt - 3) ∧ AG ad a0 r.2 rp.2 ∧ rp.1 = r.1)) {a0 : Nat} {x1 : Int32} {x2 : Int32} {x3 : Int32} {x4 : Int32} {x5 : Int32} {xs0 : Int32} (k_a0 : q_K h.1 a0 = 12) {δ δp : dp} (z0 : 2 ≤ (x3).toInt) (z1 : (x3).toInt ≤ 16) (z2 : 0 ≤ (x4).toInt) (z3 : (x4).toInt ≤ (x5).toInt) (z4 : (x5).toInt ≤ (x4).toInt + 2000) (z5 : (x5).toInt ≤ (q_I δ 12 36 a0).toInt) (z6 : (q_I δ 12 36 a0).toInt ≤ 12000) (z7 : 1 < (x3).toInt → (q_I δ 12 36 a0).toInt ≤ 10000) (z8 : 2 < (x3).toInt → (q_I δ 12 36 a0).toInt ≤ 8000) (z9 : 4 < (x3).toInt → (q_I δ 12 36 a0).toInt ≤ 6000) (z10 : 8 < (x3).toInt → (q_I δ 12 36 a0).toInt ≤ 4000) (z11 : (x3).toInt ≤ K) (z12 : (x4).toInt < (x5).toInt) (z13 : (xs0).toInt = 0 ∨ (xs0).toInt = 1) (I : RI ad h.1 δ0 δ) (A : AG ad a0 δ δp) : ok2 (J_X12_touch_158 N h.1 T a0 x1 x2 x3 x4 x5 xs0 δ) (J_X12_touch_158 N h.1 T a0 x1 x2 x3 x4 x5 xs0 δp) (fun r rp => (RI ad h.1 δ0 r.2 ∧ (kp [(12, 36)] δ r.2 ∧ q_V r.2 = q_V δ ∧ kr ad [119] δ r.2) ∧ (q_I r.2 12 36 a0).toInt = (q_I δ 12 36 a0).toInt ∧ 1 ≤ (r.1).toInt ∧ (r.1).toInt ≤ 4 * (x3).toInt - 3) ∧ AG ad a0 r.2 rp.2 ∧ rp.1 = r.1) := by
  unfold J_X12_touch_158
  have f1 := ti_b x3
  have f2 := ti_b x4
  have f3 := ti_b x5
  have f4 := cb_12_36 I k_a0
  have f5 := ti_b xs0
  try rw [A.1]
  try rw [A.2.1]
  try rw [A.2.2.1]
  try rw [A.2.2.2.1]
  refine ok2_ite (fun h6 => ?_) (fun h6 => ?_)
  · have c7 : xs0.toInt = (0 : Int) := o_eq h6
    first | (have q9 := te_sub x5 x4 (by omega) (by omega); obtain ⟨f10, f11, f12⟩ := q9) | (obtain ⟨q9, f10, f11, f12⟩ := ti_sub x5 x4)
    refine ok2_ite (fun h13 => ?_) (fun h13 => ?_)
    · have c14 : (3 : Int) ≤ (x5 - x4).toInt := o_le h13
      refine ok2_bind (v_X12_lowerBits L hN (a0 := a0) (x1 := x3) k_a0 I A) (fun r15 r15p hr16 => ?_)
      obtain ⟨hq21, ha22, hb23⟩ := hr16
      try rw [hb23]
      try rw [ha22]
      obtain ⟨i17, p18, p19, p20⟩ := hq21
      try rw [i17]
      have f24 := cb_12_12 I k_a0
      have f25 := ti_b r15.1
      have f26 := ti_b r15.1
      refine ok2_bind (v_X12_roomMany L hN (a0 := a0) (x1 := x2) (x2 := x3) (x3 := x4) (x4 := x5) k_a0 (show 0 ≤ (x4).toInt by first | assumption | omega) (show (x4).toInt ≤ (x5).toInt by first | assumption | omega) (show (x5).toInt ≤ 14000 by first | assumption | omega) (show (x5).toInt ≤ (q_I δ 12 36 a0).toInt by first | assumption | omega) I A) (fun r27 r27p hr28 => ?_)
      obtain ⟨hq30, ha31, hb32⟩ := hr28
      try rw [hb32]
      try rw [ha31]
      have i29 := hq30
      try rw [i29]
      have f33 := ti_b r27.1
      refine ok2_ite (fun h34 => ?_) (fun h34 => ?_)
      · have c35 : r27.1.toInt ≤ (0 : Int) := o_le h34
        refine ok2_mono (vj_X12_touch_267 L hN (a0 := a0) (x1 := x1) (x2 := x2) (x3 := x3) (x4 := x4) (x5 := x5) (x9v := (1 : Int32)) (x10v := r15.1) hT k_a0 (show 2 ≤ (x3).toInt by first | assumption | omega) (show (x3).toInt ≤ 16 by first | assumption | omega) (show 0 ≤ (x4).toInt by first | assumption | omega) (show (x4).toInt ≤ (x5).toInt by first | assumption | omega) (show (x5).toInt ≤ (x4).toInt + 2000 by first | assumption | omega) (show (x5).toInt ≤ (q_I δ 12 36 a0).toInt by first | assumption | omega) (show (q_I δ 12 36 a0).toInt ≤ 12000 by first | assumption | omega) (show 1 < (x3).toInt → (q_I δ 12 36 a0).toInt ≤ 10000 by first | assumption | omega) (show 2 < (x3).toInt → (q_I δ 12 36 a0).toInt ≤ 8000 by first | assumption | omega) (show 4 < (x3).toInt → (q_I δ 12 36 a0).toInt ≤ 6000 by first | assumption | omega) (show 8 < (x3).toInt → (q_I δ 12 36 a0).toInt ≤ 4000 by first | assumption | omega) (show (x3).toInt ≤ K by first | assumption | omega) (show (x4).toInt < (x5).toInt by first | assumption | omega) (show (x4).toInt + 3 ≤ (x5).toInt by first | assumption | omega) (show 1 ≤ (1 : Int) by first | assumption | omega) (show (1 : Int) ≤ 2 by first | assumption | omega) I A) (fun r36 r36p hr37 => ?_)
        obtain ⟨hq42, ha43, hb44⟩ := hr37
        obtain ⟨i38, ⟨u45, u46, u47⟩, p39, p40, p41⟩ := hq42
        have u48 := kp_t kp_r u45
        have v49 : q_V r36.2 = q_V δ := (u46).trans rfl
        have v50 := kr_t (kr_r (ad := ad)) u47
        have f51 := cb_12_36 i38 k_a0
        have f52 := ti_b r36.1
        have f53 := ti_b r36.1
        exact ⟨⟨by assumption, ⟨kp_w (by decide) u48, v49, kr_w (by decide) v50⟩, by first | assumption | omega, by first | assumption | omega, by first | assumption | omega⟩, ha43, hb44⟩
      · have c54 : (0 : Int) < r27.1.toInt := o_nle h34
        refine ok2_biv (fun vx55 e56 => ?_)
        first | (have q57 := te_cadd (c := 1) (n := 1) rfl (1 : Int32) (by omega) (by omega); rw [← e56] at q57; obtain ⟨f58, f59, f60⟩ := q57) | (obtain ⟨q57, f58, f59, f60⟩ : ∃ q : Int, vx55.toInt = (1 : Int) + (1 : Int) + 4294967296 * q ∧ -2147483648 ≤ vx55.toInt ∧ vx55.toInt ≤ 2147483647 := by rw [e56]; exact ti_cadd (c := 1) (n := 1) rfl (1 : Int32))
        have f63 := ti_b (x2 &&& (((1 : Int32) <<< (r15.1 &&& 31)) - (1 : Int32)))
        refine ok2_biv (fun vx61 e62 => ?_)
        have f64 : vx61.toInt = (x2 &&& (((1 : Int32) <<< (r15.1 &&& 31)) - (1 : Int32))).toInt := congrArg Int32.toInt e62
        have f65 := ti_b x1
        refine ok2_ite (fun h66 => ?_) (fun h66 => ?_)
        · have c67 : x1.toInt = (3 : Int) := o_eq h66
          refine ok2_bind (v_X12_roomEnd L hN (a0 := a0) (x1 := x2) (x2 := x3) (x3 := x4) (x4 := x5) (x5 := (0 : Int32)) k_a0 (show 0 ≤ (x4).toInt by first | assumption | omega) (show (x4).toInt ≤ (x5).toInt by first | assumption | omega) (show (x5).toInt ≤ 14000 by first | assumption | omega) (show (x5).toInt ≤ (q_I δ 12 36 a0).toInt by first | assumption | omega) I A) (fun r68 r68p hr69 => ?_)
          obtain ⟨hq71, ha72, hb73⟩ := hr69
          try rw [hb73]
          try rw [ha72]
          have i70 := hq71
          try rw [i70]
          have f74 := ti_b r68.1
          refine ok2_ite (fun h75 => ?_) (fun h75 => ?_)
          · have c76 : r68.1.toInt ≤ vx61.toInt := o_le h75
            refine ok2_mono (vj_X12_touch_267 L hN (a0 := a0) (x1 := x1) (x2 := x2) (x3 := x3) (x4 := x4) (x5 := x5) (x9v := vx55) (x10v := r15.1) hT k_a0 (show 2 ≤ (x3).toInt by first | assumption | omega) (show (x3).toInt ≤ 16 by first | assumption | omega) (show 0 ≤ (x4).toInt by first | assumption | omega) (show (x4).toInt ≤ (x5).toInt by first | assumption | omega) (show (x5).toInt ≤ (x4).toInt + 2000 by first | assumption | omega) (show (x5).toInt ≤ (q_I δ 12 36 a0).toInt by first | assumption | omega) (show (q_I δ 12 36 a0).toInt ≤ 12000 by first | assumption | omega) (show 1 < (x3).toInt → (q_I δ 12 36 a0).toInt ≤ 10000 by first | assumption | omega) (show 2 < (x3).toInt → (q_I δ 12 36 a0).toInt ≤ 8000 by first | assumption | omega) (show 4 < (x3).toInt → (q_I δ 12 36 a0).toInt ≤ 6000 by first | assumption | omega) (show 8 < (x3).toInt → (q_I δ 12 36 a0).toInt ≤ 4000 by first | assumption | omega) (show (x3).toInt ≤ K by first | assumption | omega) (show (x4).toInt < (x5).toInt by first | assumption | omega) (show (x4).toInt + 3 ≤ (x5).toInt by first | assumption | omega) (show 1 ≤ (vx55).toInt by first | assumption | omega) (show (vx55).toInt ≤ 2 by first | assumption | omega) I A) (fun r77 r77p hr78 => ?_)
            obtain ⟨hq83, ha84, hb85⟩ := hr78
            obtain ⟨i79, ⟨u86, u87, u88⟩, p80, p81, p82⟩ := hq83
            have u89 := kp_t kp_r u86
            have v90 : q_V r77.2 = q_V δ := (u87).trans rfl
            have v91 := kr_t (kr_r (ad := ad)) u88
            have f92 := cb_12_36 i79 k_a0
            have f93 := ti_b r77.1
            have f94 := ti_b r77.1
            exact ⟨⟨by assumption, ⟨kp_w (by decide) u89, v90, kr_w (by decide) v91⟩, by first | assumption | omega, by first | assumption | omega, by first | assumption | omega⟩, ha84, hb85⟩
          · have c95 : vx61.toInt < r68.1.toInt := o_nle h75
            unfold J_X12_touch_252
            try rw [A.1]
            try rw [A.2.1]
            try rw [A.2.2.1]
            try rw [A.2.2.2.1]
            refine ok2_bind (v_bX12_inRoom L hN (a0 := a0) (x1 := x1) (x2 := x2) (x3 := x3) (x4 := x4) (x5 := x5) hT k_a0 (show 2 ≤ (x3).toInt by first | assumption | omega) (show (x3).toInt ≤ 16 by first | assumption | omega) (show 0 ≤ (x4).toInt by first | assumption | omega) (show (x4).toInt ≤ (x5).toInt by first | assumption | omega) (show (x5).toInt ≤ (x4).toInt + 2000 by first | assumption | omega) (show (x5).toInt ≤ (q_I δ 12 36 a0).toInt by first | assumption | omega) (show (q_I δ 12 36 a0).toInt ≤ 12000 by first | assumption | omega) (show 1 < (x3).toInt → (q_I δ 12 36 a0).toInt ≤ 10000 by first | assumption | omega) (show 2 < (x3).toInt → (q_I δ 12 36 a0).toInt ≤ 8000 by first | assumption | omega) (show 4 < (x3).toInt → (q_I δ 12 36 a0).toInt ≤ 6000 by first | assumption | omega) (show 8 < (x3).toInt → (q_I δ 12 36 a0).toInt ≤ 4000 by first | assumption | omega) (show (x3).toInt ≤ K by first | assumption | omega) I A) (fun r96 r96p hr97 => ?_)
            obtain ⟨hq103, ha104, hb105⟩ := hr97
            try rw [hb105]
            obtain ⟨i98, ⟨u106, u107, u108⟩, p99, p100, p101, p102⟩ := hq103
            have u109 := kp_t kp_r u106
            have v110 : q_V r96.2 = q_V δ := (u107).trans rfl
            have v111 := kr_t (kr_r (ad := ad)) u108
            try rw [ha104.1]
            try rw [ha104.2.1]
            try rw [ha104.2.2.1]
            try rw [ha104.2.2.2.1]
            have f112 := cb_12_36 i98 k_a0
            have f113 := ti_b r96.1
            have f114 := ti_b r96.1
            first | (have q116 := te_add vx55 r96.1 (by omega) (by omega); obtain ⟨f117, f118, f119⟩ := q116) | (obtain ⟨q116, f117, f118, f119⟩ := ti_add vx55 r96.1)
            exact ok2_some (show (RI ad h.1 δ0 r96.2 ∧ (kp [(12, 36)] δ r96.2 ∧ q_V r96.2 = q_V δ ∧ kr ad [119] δ r96.2) ∧ (q_I r96.2 12 36 a0).toInt = (q_I δ 12 36 a0).toInt ∧ 1 ≤ ((vx55 + r96.1)).toInt ∧ ((vx55 + r96.1)).toInt ≤ 4 * (x3).toInt - 3) ∧ AG ad a0 r96.2 r96p.2 ∧ (vx55 + r96.1) = (vx55 + r96.1) from ⟨⟨i98, ⟨kp_w (by decide) u109, v110, kr_w (by decide) v111⟩, by first | assumption | omega, by first | assumption | omega, by first | assumption | omega⟩, ha104, rfl⟩)
        · have c120 : x1.toInt ≠ (3 : Int) := o_ne h66
          refine ok2_bind (v_X12_roomEnd L hN (a0 := a0) (x1 := x2) (x2 := x3) (x3 := x4) (x4 := x5) (x5 := (1 : Int32)) k_a0 (show 0 ≤ (x4).toInt by first | assumption | omega) (show (x4).toInt ≤ (x5).toInt by first | assumption | omega) (show (x5).toInt ≤ 14000 by first | assumption | omega) (show (x5).toInt ≤ (q_I δ 12 36 a0).toInt by first | assumption | omega) I A) (fun r121 r121p hr122 => ?_)
          obtain ⟨hq124, ha125, hb126⟩ := hr122
          try rw [hb126]
          try rw [ha125]
          have i123 := hq124
          try rw [i123]
          have f127 := ti_b r121.1
          refine ok2_ite (fun h128 => ?_) (fun h128 => ?_)
          · have c129 : vx61.toInt ≤ r121.1.toInt := o_le h128
            refine ok2_mono (vj_X12_touch_267 L hN (a0 := a0) (x1 := x1) (x2 := x2) (x3 := x3) (x4 := x4) (x5 := x5) (x9v := vx55) (x10v := r15.1) hT k_a0 (show 2 ≤ (x3).toInt by first | assumption | omega) (show (x3).toInt ≤ 16 by first | assumption | omega) (show 0 ≤ (x4).toInt by first | assumption | omega) (show (x4).toInt ≤ (x5).toInt by first | assumption | omega) (show (x5).toInt ≤ (x4).toInt + 2000 by first | assumption | omega) (show (x5).toInt ≤ (q_I δ 12 36 a0).toInt by first | assumption | omega) (show (q_I δ 12 36 a0).toInt ≤ 12000 by first | assumption | omega) (show 1 < (x3).toInt → (q_I δ 12 36 a0).toInt ≤ 10000 by first | assumption | omega) (show 2 < (x3).toInt → (q_I δ 12 36 a0).toInt ≤ 8000 by first | assumption | omega) (show 4 < (x3).toInt → (q_I δ 12 36 a0).toInt ≤ 6000 by first | assumption | omega) (show 8 < (x3).toInt → (q_I δ 12 36 a0).toInt ≤ 4000 by first | assumption | omega) (show (x3).toInt ≤ K by first | assumption | omega) (show (x4).toInt < (x5).toInt by first | assumption | omega) (show (x4).toInt + 3 ≤ (x5).toInt by first | assumption | omega) (show 1 ≤ (vx55).toInt by first | assumption | omega) (show (vx55).toInt ≤ 2 by first | assumption | omega) I A) (fun r130 r130p hr131 => ?_)
            obtain ⟨hq136, ha137, hb138⟩ := hr131
            obtain ⟨i132, ⟨u139, u140, u141⟩, p133, p134, p135⟩ := hq136
            have u142 := kp_t kp_r u139
            have v143 : q_V r130.2 = q_V δ := (u140).trans rfl
            have v144 := kr_t (kr_r (ad := ad)) u141
            have f145 := cb_12_36 i132 k_a0
            have f146 := ti_b r130.1
            have f147 := ti_b r130.1
            exact ⟨⟨by assumption, ⟨kp_w (by decide) u142, v143, kr_w (by decide) v144⟩, by first | assumption | omega, by first | assumption | omega, by first | assumption | omega⟩, ha137, hb138⟩
          · have c148 : r121.1.toInt < vx61.toInt := o_nle h128
            unfold J_X12_touch_252
            try rw [A.1]
            try rw [A.2.1]
            try rw [A.2.2.1]
            try rw [A.2.2.2.1]
            refine ok2_bind (v_bX12_inRoom L hN (a0 := a0) (x1 := x1) (x2 := x2) (x3 := x3) (x4 := x4) (x5 := x5) hT k_a0 (show 2 ≤ (x3).toInt by first | assumption | omega) (show (x3).toInt ≤ 16 by first | assumption | omega) (show 0 ≤ (x4).toInt by first | assumption | omega) (show (x4).toInt ≤ (x5).toInt by first | assumption | omega) (show (x5).toInt ≤ (x4).toInt + 2000 by first | assumption | omega) (show (x5).toInt ≤ (q_I δ 12 36 a0).toInt by first | assumption | omega) (show (q_I δ 12 36 a0).toInt ≤ 12000 by first | assumption | omega) (show 1 < (x3).toInt → (q_I δ 12 36 a0).toInt ≤ 10000 by first | assumption | omega) (show 2 < (x3).toInt → (q_I δ 12 36 a0).toInt ≤ 8000 by first | assumption | omega) (show 4 < (x3).toInt → (q_I δ 12 36 a0).toInt ≤ 6000 by first | assumption | omega) (show 8 < (x3).toInt → (q_I δ 12 36 a0).toInt ≤ 4000 by first | assumption | omega) (show (x3).toInt ≤ K by first | assumption | omega) I A) (fun r149 r149p hr150 => ?_)
            obtain ⟨hq156, ha157, hb158⟩ := hr150
            try rw [hb158]
            obtain ⟨i151, ⟨u159, u160, u161⟩, p152, p153, p154, p155⟩ := hq156
            have u162 := kp_t kp_r u159
            have v163 : q_V r149.2 = q_V δ := (u160).trans rfl
            have v164 := kr_t (kr_r (ad := ad)) u161
            try rw [ha157.1]
            try rw [ha157.2.1]
            try rw [ha157.2.2.1]
            try rw [ha157.2.2.2.1]
            have f165 := cb_12_36 i151 k_a0
            have f166 := ti_b r149.1
            have f167 := ti_b r149.1
            first | (have q169 := te_add vx55 r149.1 (by omega) (by omega); obtain ⟨f170, f171, f172⟩ := q169) | (obtain ⟨q169, f170, f171, f172⟩ := ti_add vx55 r149.1)
            exact ok2_some (show (RI ad h.1 δ0 r149.2 ∧ (kp [(12, 36)] δ r149.2 ∧ q_V r149.2 = q_V δ ∧ kr ad [119] δ r149.2) ∧ (q_I r149.2 12 36 a0).toInt = (q_I δ 12 36 a0).toInt ∧ 1 ≤ ((vx55 + r149.1)).toInt ∧ ((vx55 + r149.1)).toInt ≤ 4 * (x3).toInt - 3) ∧ AG ad a0 r149.2 r149p.2 ∧ (vx55 + r149.1) = (vx55 + r149.1) from ⟨⟨i151, ⟨kp_w (by decide) u162, v163, kr_w (by decide) v164⟩, by first | assumption | omega, by first | assumption | omega, by first | assumption | omega⟩, ha157, rfl⟩)
    · have c173 : (x5 - x4).toInt < (3 : Int) := o_nle h13
      unfold J_X12_touch_174
      try rw [A.1]
      try rw [A.2.1]
      try rw [A.2.2.1]
      try rw [A.2.2.2.1]
      exact ok2_some (show (RI ad h.1 δ0 δ ∧ (kp [(12, 36)] δ δ ∧ q_V δ = q_V δ ∧ kr ad [119] δ δ) ∧ (q_I δ 12 36 a0).toInt = (q_I δ 12 36 a0).toInt ∧ 1 ≤ (1 : Int) ∧ (1 : Int) ≤ 4 * (x3).toInt - 3) ∧ AG ad a0 δ δp ∧ (1 : Int32) = (1 : Int32) from ⟨⟨I, ⟨kp_w (by decide) kp_r, rfl, kr_w (by decide) (kr_r (ad := ad))⟩, by first | assumption | omega, by first | assumption | omega, by first | assumption | omega⟩, A, rfl⟩)
  · have c174 : xs0.toInt ≠ (0 : Int) := o_ne h6
    unfold J_X12_touch_174
    try rw [A.1]
    try rw [A.2.1]
    try rw [A.2.2.1]
    try rw [A.2.2.2.1]
    exact ok2_some (show (RI ad h.1 δ0 δ ∧ (kp [(12, 36)] δ δ ∧ q_V δ = q_V δ ∧ kr ad [119] δ δ) ∧ (q_I δ 12 36 a0).toInt = (q_I δ 12 36 a0).toInt ∧ 1 ≤ (1 : Int) ∧ (1 : Int) ≤ 4 * (x3).toInt - 3) ∧ AG ad a0 δ δp ∧ (1 : Int32) = (1 : Int32) from ⟨⟨I, ⟨kp_w (by decide) kp_r, rfl, kr_w (by decide) (kr_r (ad := ad))⟩, by first | assumption | omega, by first | assumption | omega, by first | assumption | omega⟩, A, rfl⟩)
set_option maxHeartbeats 4000000 in
theorem ve_X12_touch {ad : List Nat} {h : hp} (L : Lay TLx ad h) {δ0 : dp} {N : Nat} (hN : 10000000 ≤ N) : ∀ (k : Nat), ∀ (a0 : Nat) (x1 : Int32) (x2 : Int32) (x3 : Int32) (x4 : Int32) (x5 : Int32) (δ : dp) (δp : dp), q_K h.1 a0 = 12 → 1 ≤ (x3).toInt → (x3).toInt ≤ 16 → 0 ≤ (x4).toInt → (x4).toInt ≤ (x5).toInt → (x5).toInt ≤ (x4).toInt + 2000 → (x5).toInt ≤ (q_I δ 12 36 a0).toInt → (q_I δ 12 36 a0).toInt ≤ 12000 → (1 < (x3).toInt → (q_I δ 12 36 a0).toInt ≤ 10000) → (2 < (x3).toInt → (q_I δ 12 36 a0).toInt ≤ 8000) → (4 < (x3).toInt → (q_I δ 12 36 a0).toInt ≤ 6000) → (8 < (x3).toInt → (q_I δ 12 36 a0).toInt ≤ 4000) → (x3).toInt < (k : Int) → RI ad h.1 δ0 δ → AG ad a0 δ δp → ok2 (E_X12_touch N h.1 k a0 x1 x2 x3 x4 x5 δ) (E_X12_touch N h.1 k a0 x1 x2 x3 x4 x5 δp) (fun r rp => (RI ad h.1 δ0 r.2 ∧ (kp [(12, 36)] δ r.2 ∧ q_V r.2 = q_V δ ∧ kr ad [119] δ r.2) ∧ (q_I r.2 12 36 a0).toInt = (q_I δ 12 36 a0).toInt ∧ 1 ≤ (r.1).toInt ∧ (r.1).toInt ≤ 4 * (x3).toInt - 3) ∧ AG ad a0 r.2 rp.2 ∧ rp.1 = r.1) := by
  intro k
  induction k with
  | zero =>
    intro a0 x1 x2 x3 x4 x5 δ δp k_a0 z0 z1 z2 z3 z4 z5 z6 z7 z8 z9 z10 hd I A
    exfalso; omega
  | succ k ih =>
    intro a0 x1 x2 x3 x4 x5 δ δp k_a0 z0 z1 z2 z3 z4 z5 z6 z7 z8 z9 z10 hd I A
    unfold E_X12_touch B_X12_touch
    have f1 := ti_b x3
    have f2 := ti_b x4
    have f3 := ti_b x5
    have f4 := cb_12_36 I k_a0
    try rw [A.1]
    try rw [A.2.1]
    try rw [A.2.2.1]
    try rw [A.2.2.2.1]
    have f5 := cb_12_11 I k_a0
    refine ok2_ite (fun h6 => ?_) (fun h6 => ?_)
    · have c7 : x3.toInt ≤ (q_I δ 12 11 a0).toInt := o_le h6
      unfold J_X12_touch_15
      try rw [A.1]
      try rw [A.2.1]
      try rw [A.2.2.1]
      try rw [A.2.2.2.1]
      exact ok2_some (show (RI ad h.1 δ0 δ ∧ (kp [(12, 36)] δ δ ∧ q_V δ = q_V δ ∧ kr ad [119] δ δ) ∧ (q_I δ 12 36 a0).toInt = (q_I δ 12 36 a0).toInt ∧ 1 ≤ (1 : Int) ∧ (1 : Int) ≤ 4 * (x3).toInt - 3) ∧ AG ad a0 δ δp ∧ (1 : Int32) = (1 : Int32) from ⟨⟨I, ⟨kp_w (by decide) kp_r, rfl, kr_w (by decide) (kr_r (ad := ad))⟩, by first | assumption | omega, by first | assumption | omega, by first | assumption | omega⟩, A, rfl⟩)
    · have c8 : (q_I δ 12 11 a0).toInt < x3.toInt := o_nle h6
      refine ok2_ite (fun h9 => ?_) (fun h9 => ?_)
      · have c10 : x4.toInt = x5.toInt := o_eq h9
        unfold J_X12_touch_15
        try rw [A.1]
        try rw [A.2.1]
        try rw [A.2.2.1]
        try rw [A.2.2.2.1]
        exact ok2_some (show (RI ad h.1 δ0 δ ∧ (kp [(12, 36)] δ δ ∧ q_V δ = q_V δ ∧ kr ad [119] δ δ) ∧ (q_I δ 12 36 a0).toInt = (q_I δ 12 36 a0).toInt ∧ 1 ≤ (1 : Int) ∧ (1 : Int) ≤ 4 * (x3).toInt - 3) ∧ AG ad a0 δ δp ∧ (1 : Int32) = (1 : Int32) from ⟨⟨I, ⟨kp_w (by decide) kp_r, rfl, kr_w (by decide) (kr_r (ad := ad))⟩, by first | assumption | omega, by first | assumption | omega, by first | assumption | omega⟩, A, rfl⟩)
      · have c11 : x4.toInt ≠ x5.toInt := o_ne h9
        have f12 := ti_b x1
        refine ok2_ite (fun h13 => ?_) (fun h13 => ?_)
        · have c14 : x1.toInt = (0 : Int) := o_eq h13
          refine ok2_bind (v_bX12_touchPut L hN (a0 := a0) (x1 := x2) (x2 := x3) (x3 := x4) (x4 := x5) ih k_a0 (show 2 ≤ (x3).toInt by first | assumption | omega) (show (x3).toInt ≤ 16 by first | assumption | omega) (show 0 ≤ (x4).toInt by first | assumption | omega) (show (x4).toInt ≤ (x5).toInt by first | assumption | omega) (show (x5).toInt ≤ (x4).toInt + 2000 by first | assumption | omega) (show (x5).toInt ≤ (q_I δ 12 36 a0).toInt by first | assumption | omega) (show (q_I δ 12 36 a0).toInt ≤ 12000 by first | assumption | omega) (show 1 < (x3).toInt → (q_I δ 12 36 a0).toInt ≤ 10000 by first | assumption | omega) (show 2 < (x3).toInt → (q_I δ 12 36 a0).toInt ≤ 8000 by first | assumption | omega) (show 4 < (x3).toInt → (q_I δ 12 36 a0).toInt ≤ 6000 by first | assumption | omega) (show 8 < (x3).toInt → (q_I δ 12 36 a0).toInt ≤ 4000 by first | assumption | omega) (show (x3).toInt ≤ (k : Int) by first | assumption | omega) (show (x4).toInt < (x5).toInt by first | assumption | omega) I A) (fun r15 r15p hr16 => ?_)
          obtain ⟨hq21, ha22, hb23⟩ := hr16
          try rw [hb23]
          obtain ⟨i17, ⟨u24, u25, u26⟩, p18, p19, p20⟩ := hq21
          have u27 := kp_t kp_r u24
          have v28 : q_V r15.2 = q_V δ := (u25).trans rfl
          have v29 := kr_t (kr_r (ad := ad)) u26
          try rw [ha22.1]
          try rw [ha22.2.1]
          try rw [ha22.2.2.1]
          try rw [ha22.2.2.2.1]
          have f30 := cb_12_36 i17 k_a0
          have f31 := ti_b r15.1
          have f32 := ti_b r15.1
          exact ok2_some (show (RI ad h.1 δ0 r15.2 ∧ (kp [(12, 36)] δ r15.2 ∧ q_V r15.2 = q_V δ ∧ kr ad [119] δ r15.2) ∧ (q_I r15.2 12 36 a0).toInt = (q_I δ 12 36 a0).toInt ∧ 1 ≤ (r15.1).toInt ∧ (r15.1).toInt ≤ 4 * (x3).toInt - 3) ∧ AG ad a0 r15.2 r15p.2 ∧ r15.1 = r15.1 from ⟨⟨i17, ⟨kp_w (by decide) u27, v28, kr_w (by decide) v29⟩, by first | assumption | omega, by first | assumption | omega, by first | assumption | omega⟩, ha22, rfl⟩)
        · have c33 : x1.toInt ≠ (0 : Int) := o_ne h13
          refine ok2_ite (fun h34 => ?_) (fun h34 => ?_)
          · have c35 : x1.toInt = (1 : Int) := o_eq h34
            refine ok2_bind (v_bX12_touchDrop L hN (a0 := a0) (x1 := x2) (x2 := x3) (x3 := x4) (x4 := x5) ih k_a0 (show 2 ≤ (x3).toInt by first | assumption | omega) (show (x3).toInt ≤ 16 by first | assumption | omega) (show 0 ≤ (x4).toInt by first | assumption | omega) (show (x4).toInt ≤ (x5).toInt by first | assumption | omega) (show (x5).toInt ≤ (x4).toInt + 2000 by first | assumption | omega) (show (x5).toInt ≤ (q_I δ 12 36 a0).toInt by first | assumption | omega) (show (q_I δ 12 36 a0).toInt ≤ 12000 by first | assumption | omega) (show 1 < (x3).toInt → (q_I δ 12 36 a0).toInt ≤ 10000 by first | assumption | omega) (show 2 < (x3).toInt → (q_I δ 12 36 a0).toInt ≤ 8000 by first | assumption | omega) (show 4 < (x3).toInt → (q_I δ 12 36 a0).toInt ≤ 6000 by first | assumption | omega) (show 8 < (x3).toInt → (q_I δ 12 36 a0).toInt ≤ 4000 by first | assumption | omega) (show (x3).toInt ≤ (k : Int) by first | assumption | omega) (show (x4).toInt < (x5).toInt by first | assumption | omega) I A) (fun r36 r36p hr37 => ?_)
            obtain ⟨hq42, ha43, hb44⟩ := hr37
            try rw [hb44]
            obtain ⟨i38, ⟨u45, u46, u47⟩, p39, p40, p41⟩ := hq42
            have u48 := kp_t kp_r u45
            have v49 : q_V r36.2 = q_V δ := (u46).trans rfl
            have v50 := kr_t (kr_r (ad := ad)) u47
            try rw [ha43.1]
            try rw [ha43.2.1]
            try rw [ha43.2.2.1]
            try rw [ha43.2.2.2.1]
            have f51 := cb_12_36 i38 k_a0
            have f52 := ti_b r36.1
            have f53 := ti_b r36.1
            exact ok2_some (show (RI ad h.1 δ0 r36.2 ∧ (kp [(12, 36)] δ r36.2 ∧ q_V r36.2 = q_V δ ∧ kr ad [119] δ r36.2) ∧ (q_I r36.2 12 36 a0).toInt = (q_I δ 12 36 a0).toInt ∧ 1 ≤ (r36.1).toInt ∧ (r36.1).toInt ≤ 4 * (x3).toInt - 3) ∧ AG ad a0 r36.2 r36p.2 ∧ r36.1 = r36.1 from ⟨⟨i38, ⟨kp_w (by decide) u48, v49, kr_w (by decide) v50⟩, by first | assumption | omega, by first | assumption | omega, by first | assumption | omega⟩, ha43, rfl⟩)
          · have c54 : x1.toInt ≠ (1 : Int) := o_ne h34
            obtain ⟨b55, o56, k57, n58, w59⟩ := gO_12_35 L k_a0
            obtain rfl := gS_12_35 L k_a0 o56
            refine ok2_at o56 ?_
            have t60 := ti_tn x4
            refine ok2_gd (fun hc61 => ?_) ?_
            · rcases hc61 with hc61 | hc61
              · have c62 : x4.toInt < (0 : Int) := o_lt hc61
                omega
              · omega
            have hq65 : q_R δp (Ad ad 119) x4.toNatClampNeg = q_R δ (Ad ad 119) x4.toNatClampNeg := A.2.2.2.2 _ (by omega)
            try rw [hq65]
            have f66 := ti_b (q_R δ (Ad ad 119) x4.toNatClampNeg)
            refine ok2_biv (fun vx63 e64 => ?_)
            have f67 : vx63.toInt = (q_R δ (Ad ad 119) x4.toNatClampNeg).toInt := congrArg Int32.toInt e64
            refine ok2_at o56 ?_
            first | (have q69 := te_subc (c := 1) (n := 1) rfl x5 (by omega) (by omega); obtain ⟨f70, f71, f72⟩ := q69) | (obtain ⟨q69, f70, f71, f72⟩ := ti_subc (c := 1) (n := 1) rfl x5)
            have t73 := ti_tn (x5 - (1 : Int32))
            refine ok2_gd (fun hc74 => ?_) ?_
            · rcases hc74 with hc74 | hc74
              · have c75 : (x5 - (1 : Int32)).toInt < (0 : Int) := o_lt hc74
                omega
              · omega
            have hq78 : q_R δp (Ad ad 119) (x5 - (1 : Int32)).toNatClampNeg = q_R δ (Ad ad 119) (x5 - (1 : Int32)).toNatClampNeg := A.2.2.2.2 _ (by omega)
            try rw [hq78]
            have f79 := ti_b (q_R δ (Ad ad 119) (x5 - (1 : Int32)).toNatClampNeg)
            refine ok2_biv (fun vx76 e77 => ?_)
            have f80 : vx76.toInt = (q_R δ (Ad ad 119) (x5 - (1 : Int32)).toNatClampNeg).toInt := congrArg Int32.toInt e77
            refine ok2_ite (fun h81 => ?_) (fun h81 => ?_)
            · have c82 : x1.toInt = (2 : Int) := o_eq h81
              have f83 := ti_b x2
              refine ok2_ite (fun h84 => ?_) (fun h84 => ?_)
              · have c85 : x2.toInt ≤ vx63.toInt := o_le h84
                unfold J_X12_touch_98
                try rw [A.1]
                try rw [A.2.1]
                try rw [A.2.2.1]
                try rw [A.2.2.2.1]
                unfold J_X12_touch_115
                try rw [A.1]
                try rw [A.2.1]
                try rw [A.2.2.1]
                try rw [A.2.2.2.1]
                exact ok2_some (show (RI ad h.1 δ0 δ ∧ (kp [(12, 36)] δ δ ∧ q_V δ = q_V δ ∧ kr ad [119] δ δ) ∧ (q_I δ 12 36 a0).toInt = (q_I δ 12 36 a0).toInt ∧ 1 ≤ (1 : Int) ∧ (1 : Int) ≤ 4 * (x3).toInt - 3) ∧ AG ad a0 δ δp ∧ (1 : Int32) = (1 : Int32) from ⟨⟨I, ⟨kp_w (by decide) kp_r, rfl, kr_w (by decide) (kr_r (ad := ad))⟩, by first | assumption | omega, by first | assumption | omega, by first | assumption | omega⟩, A, rfl⟩)
              · have c86 : vx63.toInt < x2.toInt := o_nle h84
                refine ok2_ite (fun h87 => ?_) (fun h87 => ?_)
                · have c88 : vx76.toInt ≤ x2.toInt := o_le h87
                  unfold J_X12_touch_98
                  try rw [A.1]
                  try rw [A.2.1]
                  try rw [A.2.2.1]
                  try rw [A.2.2.2.1]
                  unfold J_X12_touch_115
                  try rw [A.1]
                  try rw [A.2.1]
                  try rw [A.2.2.1]
                  try rw [A.2.2.2.1]
                  exact ok2_some (show (RI ad h.1 δ0 δ ∧ (kp [(12, 36)] δ δ ∧ q_V δ = q_V δ ∧ kr ad [119] δ δ) ∧ (q_I δ 12 36 a0).toInt = (q_I δ 12 36 a0).toInt ∧ 1 ≤ (1 : Int) ∧ (1 : Int) ≤ 4 * (x3).toInt - 3) ∧ AG ad a0 δ δp ∧ (1 : Int32) = (1 : Int32) from ⟨⟨I, ⟨kp_w (by decide) kp_r, rfl, kr_w (by decide) (kr_r (ad := ad))⟩, by first | assumption | omega, by first | assumption | omega, by first | assumption | omega⟩, A, rfl⟩)
                · have c89 : x2.toInt < vx76.toInt := o_nle h87
                  refine ok2_bind (v_X12_roomMany L hN (a0 := a0) (x1 := x2) (x2 := x3) (x3 := x4) (x4 := x5) k_a0 (show 0 ≤ (x4).toInt by first | assumption | omega) (show (x4).toInt ≤ (x5).toInt by first | assumption | omega) (show (x5).toInt ≤ 14000 by first | assumption | omega) (show (x5).toInt ≤ (q_I δ 12 36 a0).toInt by first | assumption | omega) I A) (fun r90 r90p hr91 => ?_)
                  obtain ⟨hq93, ha94, hb95⟩ := hr91
                  try rw [hb95]
                  try rw [ha94]
                  have i92 := hq93
                  try rw [i92]
                  have f96 := ti_b r90.1
                  refine ok2_ite (fun h97 => ?_) (fun h97 => ?_)
                  · have c98 : r90.1.toInt = (0 : Int) := o_eq h97
                    unfold J_X12_touch_98
                    try rw [A.1]
                    try rw [A.2.1]
                    try rw [A.2.2.1]
                    try rw [A.2.2.2.1]
                    unfold J_X12_touch_115
                    try rw [A.1]
                    try rw [A.2.1]
                    try rw [A.2.2.1]
                    try rw [A.2.2.2.1]
                    exact ok2_some (show (RI ad h.1 δ0 δ ∧ (kp [(12, 36)] δ δ ∧ q_V δ = q_V δ ∧ kr ad [119] δ δ) ∧ (q_I δ 12 36 a0).toInt = (q_I δ 12 36 a0).toInt ∧ 1 ≤ (1 : Int) ∧ (1 : Int) ≤ 4 * (x3).toInt - 3) ∧ AG ad a0 δ δp ∧ (1 : Int32) = (1 : Int32) from ⟨⟨I, ⟨kp_w (by decide) kp_r, rfl, kr_w (by decide) (kr_r (ad := ad))⟩, by first | assumption | omega, by first | assumption | omega, by first | assumption | omega⟩, A, rfl⟩)
                  · have c99 : r90.1.toInt ≠ (0 : Int) := o_ne h97
                    refine ok2_bind (v_bX12_inRoom L hN (a0 := a0) (x1 := (2 : Int32)) (x2 := x2) (x3 := x3) (x4 := x4) (x5 := x5) ih k_a0 (show 2 ≤ (x3).toInt by first | assumption | omega) (show (x3).toInt ≤ 16 by first | assumption | omega) (show 0 ≤ (x4).toInt by first | assumption | omega) (show (x4).toInt ≤ (x5).toInt by first | assumption | omega) (show (x5).toInt ≤ (x4).toInt + 2000 by first | assumption | omega) (show (x5).toInt ≤ (q_I δ 12 36 a0).toInt by first | assumption | omega) (show (q_I δ 12 36 a0).toInt ≤ 12000 by first | assumption | omega) (show 1 < (x3).toInt → (q_I δ 12 36 a0).toInt ≤ 10000 by first | assumption | omega) (show 2 < (x3).toInt → (q_I δ 12 36 a0).toInt ≤ 8000 by first | assumption | omega) (show 4 < (x3).toInt → (q_I δ 12 36 a0).toInt ≤ 6000 by first | assumption | omega) (show 8 < (x3).toInt → (q_I δ 12 36 a0).toInt ≤ 4000 by first | assumption | omega) (show (x3).toInt ≤ (k : Int) by first | assumption | omega) I A) (fun r100 r100p hr101 => ?_)
                    obtain ⟨hq107, ha108, hb109⟩ := hr101
                    try rw [hb109]
                    obtain ⟨i102, ⟨u110, u111, u112⟩, p103, p104, p105, p106⟩ := hq107
                    have u113 := kp_t kp_r u110
                    have v114 : q_V r100.2 = q_V δ := (u111).trans rfl
                    have v115 := kr_t (kr_r (ad := ad)) u112
                    try rw [ha108.1]
                    try rw [ha108.2.1]
                    try rw [ha108.2.2.1]
                    try rw [ha108.2.2.2.1]
                    have f116 := cb_12_36 i102 k_a0
                    have f117 := ti_b r100.1
                    have f118 := cb_12_12 I k_a0
                    have f119 := ti_b r100.1
                    unfold J_X12_touch_115
                    try rw [ha108.1]
                    try rw [ha108.2.1]
                    try rw [ha108.2.2.1]
                    try rw [ha108.2.2.2.1]
                    first | (have q121 := te_cadd (c := 1) (n := 1) rfl r100.1 (by omega) (by omega); obtain ⟨f122, f123, f124⟩ := q121) | (obtain ⟨q121, f122, f123, f124⟩ := ti_cadd (c := 1) (n := 1) rfl r100.1)
                    exact ok2_some (show (RI ad h.1 δ0 r100.2 ∧ (kp [(12, 36)] δ r100.2 ∧ q_V r100.2 = q_V δ ∧ kr ad [119] δ r100.2) ∧ (q_I r100.2 12 36 a0).toInt = (q_I δ 12 36 a0).toInt ∧ 1 ≤ (((1 : Int32) + r100.1)).toInt ∧ (((1 : Int32) + r100.1)).toInt ≤ 4 * (x3).toInt - 3) ∧ AG ad a0 r100.2 r100p.2 ∧ ((1 : Int32) + r100.1) = ((1 : Int32) + r100.1) from ⟨⟨i102, ⟨kp_w (by decide) u113, v114, kr_w (by decide) v115⟩, by first | assumption | omega, by first | assumption | omega, by first | assumption | omega⟩, ha108, rfl⟩)
            · have c125 : x1.toInt ≠ (2 : Int) := o_ne h81
              refine ok2_ite (fun h126 => ?_) (fun h126 => ?_)
              · have c127 : x1.toInt = (3 : Int) := o_eq h126
                have f128 := ti_b x2
                refine ok2_ite (fun h129 => ?_) (fun h129 => ?_)
                · have c130 : x2.toInt < vx63.toInt := o_lt h129
                  unfold J_X12_touch_133
                  try rw [A.1]
                  try rw [A.2.1]
                  try rw [A.2.2.1]
                  try rw [A.2.2.2.1]
                  unfold J_X12_touch_158
                  try rw [A.1]
                  try rw [A.2.1]
                  try rw [A.2.2.1]
                  try rw [A.2.2.2.1]
                  refine ok2_ite (fun h131 => ?_) (fun h131 => ?_)
                  · have c132 : (1 : Int) = (0 : Int) := o_eq h131
                    first | (have q134 := te_sub x5 x4 (by omega) (by omega); obtain ⟨f135, f136, f137⟩ := q134) | (obtain ⟨q134, f135, f136, f137⟩ := ti_sub x5 x4)
                    refine ok2_ite (fun h138 => ?_) (fun h138 => ?_)
                    · have c139 : (3 : Int) ≤ (x5 - x4).toInt := o_le h138
                      refine ok2_bind (v_X12_lowerBits L hN (a0 := a0) (x1 := x3) k_a0 I A) (fun r140 r140p hr141 => ?_)
                      obtain ⟨hq146, ha147, hb148⟩ := hr141
                      try rw [hb148]
                      try rw [ha147]
                      obtain ⟨i142, p143, p144, p145⟩ := hq146
                      try rw [i142]
                      have f149 := cb_12_12 I k_a0
                      have f150 := ti_b r140.1
                      have f151 := ti_b r140.1
                      refine ok2_bind (v_X12_roomMany L hN (a0 := a0) (x1 := x2) (x2 := x3) (x3 := x4) (x4 := x5) k_a0 (show 0 ≤ (x4).toInt by first | assumption | omega) (show (x4).toInt ≤ (x5).toInt by first | assumption | omega) (show (x5).toInt ≤ 14000 by first | assumption | omega) (show (x5).toInt ≤ (q_I δ 12 36 a0).toInt by first | assumption | omega) I A) (fun r152 r152p hr153 => ?_)
                      obtain ⟨hq155, ha156, hb157⟩ := hr153
                      try rw [hb157]
                      try rw [ha156]
                      have i154 := hq155
                      try rw [i154]
                      have f158 := ti_b r152.1
                      refine ok2_ite (fun h159 => ?_) (fun h159 => ?_)
                      · have c160 : r152.1.toInt ≤ (0 : Int) := o_le h159
                        refine ok2_mono (vj_X12_touch_267 L hN (a0 := a0) (x1 := x1) (x2 := x2) (x3 := x3) (x4 := x4) (x5 := x5) (x9v := (1 : Int32)) (x10v := r140.1) ih k_a0 (show 2 ≤ (x3).toInt by first | assumption | omega) (show (x3).toInt ≤ 16 by first | assumption | omega) (show 0 ≤ (x4).toInt by first | assumption | omega) (show (x4).toInt ≤ (x5).toInt by first | assumption | omega) (show (x5).toInt ≤ (x4).toInt + 2000 by first | assumption | omega) (show (x5).toInt ≤ (q_I δ 12 36 a0).toInt by first | assumption | omega) (show (q_I δ 12 36 a0).toInt ≤ 12000 by first | assumption | omega) (show 1 < (x3).toInt → (q_I δ 12 36 a0).toInt ≤ 10000 by first | assumption | omega) (show 2 < (x3).toInt → (q_I δ 12 36 a0).toInt ≤ 8000 by first | assumption | omega) (show 4 < (x3).toInt → (q_I δ 12 36 a0).toInt ≤ 6000 by first | assumption | omega) (show 8 < (x3).toInt → (q_I δ 12 36 a0).toInt ≤ 4000 by first | assumption | omega) (show (x3).toInt ≤ (k : Int) by first | assumption | omega) (show (x4).toInt < (x5).toInt by first | assumption | omega) (show (x4).toInt + 3 ≤ (x5).toInt by first | assumption | omega) (show 1 ≤ (1 : Int) by first | assumption | omega) (show (1 : Int) ≤ 2 by first | assumption | omega) I A) (fun r161 r161p hr162 => ?_)
                        obtain ⟨hq167, ha168, hb169⟩ := hr162
                        obtain ⟨i163, ⟨u170, u171, u172⟩, p164, p165, p166⟩ := hq167
                        have u173 := kp_t kp_r u170
                        have v174 : q_V r161.2 = q_V δ := (u171).trans rfl
                        have v175 := kr_t (kr_r (ad := ad)) u172
                        have f176 := cb_12_36 i163 k_a0
                        have f177 := ti_b r161.1
                        have f178 := ti_b r161.1
                        exact ⟨⟨by assumption, ⟨kp_w (by decide) u173, v174, kr_w (by decide) v175⟩, by first | assumption | omega, by first | assumption | omega, by first | assumption | omega⟩, ha168, hb169⟩
                      · have c179 : (0 : Int) < r152.1.toInt := o_nle h159
                        refine ok2_biv (fun vx180 e181 => ?_)
                        first | (have q182 := te_cadd (c := 1) (n := 1) rfl (1 : Int32) (by omega) (by omega); rw [← e181] at q182; obtain ⟨f183, f184, f185⟩ := q182) | (obtain ⟨q182, f183, f184, f185⟩ : ∃ q : Int, vx180.toInt = (1 : Int) + (1 : Int) + 4294967296 * q ∧ -2147483648 ≤ vx180.toInt ∧ vx180.toInt ≤ 2147483647 := by rw [e181]; exact ti_cadd (c := 1) (n := 1) rfl (1 : Int32))
                        have f188 := ti_b (x2 &&& (((1 : Int32) <<< (r140.1 &&& 31)) - (1 : Int32)))
                        refine ok2_biv (fun vx186 e187 => ?_)
                        have f189 : vx186.toInt = (x2 &&& (((1 : Int32) <<< (r140.1 &&& 31)) - (1 : Int32))).toInt := congrArg Int32.toInt e187
                        refine ok2_ite (fun h190 => ?_) (fun h190 => ?_)
                        · have c191 : x1.toInt = (3 : Int) := o_eq h190
                          refine ok2_bind (v_X12_roomEnd L hN (a0 := a0) (x1 := x2) (x2 := x3) (x3 := x4) (x4 := x5) (x5 := (0 : Int32)) k_a0 (show 0 ≤ (x4).toInt by first | assumption | omega) (show (x4).toInt ≤ (x5).toInt by first | assumption | omega) (show (x5).toInt ≤ 14000 by first | assumption | omega) (show (x5).toInt ≤ (q_I δ 12 36 a0).toInt by first | assumption | omega) I A) (fun r192 r192p hr193 => ?_)
                          obtain ⟨hq195, ha196, hb197⟩ := hr193
                          try rw [hb197]
                          try rw [ha196]
                          have i194 := hq195
                          try rw [i194]
                          have f198 := ti_b r192.1
                          refine ok2_ite (fun h199 => ?_) (fun h199 => ?_)
                          · have c200 : r192.1.toInt ≤ vx186.toInt := o_le h199
                            refine ok2_mono (vj_X12_touch_267 L hN (a0 := a0) (x1 := x1) (x2 := x2) (x3 := x3) (x4 := x4) (x5 := x5) (x9v := vx180) (x10v := r140.1) ih k_a0 (show 2 ≤ (x3).toInt by first | assumption | omega) (show (x3).toInt ≤ 16 by first | assumption | omega) (show 0 ≤ (x4).toInt by first | assumption | omega) (show (x4).toInt ≤ (x5).toInt by first | assumption | omega) (show (x5).toInt ≤ (x4).toInt + 2000 by first | assumption | omega) (show (x5).toInt ≤ (q_I δ 12 36 a0).toInt by first | assumption | omega) (show (q_I δ 12 36 a0).toInt ≤ 12000 by first | assumption | omega) (show 1 < (x3).toInt → (q_I δ 12 36 a0).toInt ≤ 10000 by first | assumption | omega) (show 2 < (x3).toInt → (q_I δ 12 36 a0).toInt ≤ 8000 by first | assumption | omega) (show 4 < (x3).toInt → (q_I δ 12 36 a0).toInt ≤ 6000 by first | assumption | omega) (show 8 < (x3).toInt → (q_I δ 12 36 a0).toInt ≤ 4000 by first | assumption | omega) (show (x3).toInt ≤ (k : Int) by first | assumption | omega) (show (x4).toInt < (x5).toInt by first | assumption | omega) (show (x4).toInt + 3 ≤ (x5).toInt by first | assumption | omega) (show 1 ≤ (vx180).toInt by first | assumption | omega) (show (vx180).toInt ≤ 2 by first | assumption | omega) I A) (fun r201 r201p hr202 => ?_)
                            obtain ⟨hq207, ha208, hb209⟩ := hr202
                            obtain ⟨i203, ⟨u210, u211, u212⟩, p204, p205, p206⟩ := hq207
                            have u213 := kp_t kp_r u210
                            have v214 : q_V r201.2 = q_V δ := (u211).trans rfl
                            have v215 := kr_t (kr_r (ad := ad)) u212
                            have f216 := cb_12_36 i203 k_a0
                            have f217 := ti_b r201.1
                            have f218 := ti_b r201.1
                            exact ⟨⟨by assumption, ⟨kp_w (by decide) u213, v214, kr_w (by decide) v215⟩, by first | assumption | omega, by first | assumption | omega, by first | assumption | omega⟩, ha208, hb209⟩
                          · have c219 : vx186.toInt < r192.1.toInt := o_nle h199
                            unfold J_X12_touch_252
                            try rw [A.1]
                            try rw [A.2.1]
                            try rw [A.2.2.1]
                            try rw [A.2.2.2.1]
                            refine ok2_bind (v_bX12_inRoom L hN (a0 := a0) (x1 := x1) (x2 := x2) (x3 := x3) (x4 := x4) (x5 := x5) ih k_a0 (show 2 ≤ (x3).toInt by first | assumption | omega) (show (x3).toInt ≤ 16 by first | assumption | omega) (show 0 ≤ (x4).toInt by first | assumption | omega) (show (x4).toInt ≤ (x5).toInt by first | assumption | omega) (show (x5).toInt ≤ (x4).toInt + 2000 by first | assumption | omega) (show (x5).toInt ≤ (q_I δ 12 36 a0).toInt by first | assumption | omega) (show (q_I δ 12 36 a0).toInt ≤ 12000 by first | assumption | omega) (show 1 < (x3).toInt → (q_I δ 12 36 a0).toInt ≤ 10000 by first | assumption | omega) (show 2 < (x3).toInt → (q_I δ 12 36 a0).toInt ≤ 8000 by first | assumption | omega) (show 4 < (x3).toInt → (q_I δ 12 36 a0).toInt ≤ 6000 by first | assumption | omega) (show 8 < (x3).toInt → (q_I δ 12 36 a0).toInt ≤ 4000 by first | assumption | omega) (show (x3).toInt ≤ (k : Int) by first | assumption | omega) I A) (fun r220 r220p hr221 => ?_)
                            obtain ⟨hq227, ha228, hb229⟩ := hr221
                            try rw [hb229]
                            obtain ⟨i222, ⟨u230, u231, u232⟩, p223, p224, p225, p226⟩ := hq227
                            have u233 := kp_t kp_r u230
                            have v234 : q_V r220.2 = q_V δ := (u231).trans rfl
                            have v235 := kr_t (kr_r (ad := ad)) u232
                            try rw [ha228.1]
                            try rw [ha228.2.1]
                            try rw [ha228.2.2.1]
                            try rw [ha228.2.2.2.1]
                            have f236 := cb_12_36 i222 k_a0
                            have f237 := ti_b r220.1
                            have f238 := ti_b r220.1
                            first | (have q240 := te_add vx180 r220.1 (by omega) (by omega); obtain ⟨f241, f242, f243⟩ := q240) | (obtain ⟨q240, f241, f242, f243⟩ := ti_add vx180 r220.1)
                            exact ok2_some (show (RI ad h.1 δ0 r220.2 ∧ (kp [(12, 36)] δ r220.2 ∧ q_V r220.2 = q_V δ ∧ kr ad [119] δ r220.2) ∧ (q_I r220.2 12 36 a0).toInt = (q_I δ 12 36 a0).toInt ∧ 1 ≤ ((vx180 + r220.1)).toInt ∧ ((vx180 + r220.1)).toInt ≤ 4 * (x3).toInt - 3) ∧ AG ad a0 r220.2 r220p.2 ∧ (vx180 + r220.1) = (vx180 + r220.1) from ⟨⟨i222, ⟨kp_w (by decide) u233, v234, kr_w (by decide) v235⟩, by first | assumption | omega, by first | assumption | omega, by first | assumption | omega⟩, ha228, rfl⟩)
                        · have c244 : x1.toInt ≠ (3 : Int) := o_ne h190
                          refine ok2_bind (v_X12_roomEnd L hN (a0 := a0) (x1 := x2) (x2 := x3) (x3 := x4) (x4 := x5) (x5 := (1 : Int32)) k_a0 (show 0 ≤ (x4).toInt by first | assumption | omega) (show (x4).toInt ≤ (x5).toInt by first | assumption | omega) (show (x5).toInt ≤ 14000 by first | assumption | omega) (show (x5).toInt ≤ (q_I δ 12 36 a0).toInt by first | assumption | omega) I A) (fun r245 r245p hr246 => ?_)
                          obtain ⟨hq248, ha249, hb250⟩ := hr246
                          try rw [hb250]
                          try rw [ha249]
                          have i247 := hq248
                          try rw [i247]
                          have f251 := ti_b r245.1
                          refine ok2_ite (fun h252 => ?_) (fun h252 => ?_)
                          · have c253 : vx186.toInt ≤ r245.1.toInt := o_le h252
                            refine ok2_mono (vj_X12_touch_267 L hN (a0 := a0) (x1 := x1) (x2 := x2) (x3 := x3) (x4 := x4) (x5 := x5) (x9v := vx180) (x10v := r140.1) ih k_a0 (show 2 ≤ (x3).toInt by first | assumption | omega) (show (x3).toInt ≤ 16 by first | assumption | omega) (show 0 ≤ (x4).toInt by first | assumption | omega) (show (x4).toInt ≤ (x5).toInt by first | assumption | omega) (show (x5).toInt ≤ (x4).toInt + 2000 by first | assumption | omega) (show (x5).toInt ≤ (q_I δ 12 36 a0).toInt by first | assumption | omega) (show (q_I δ 12 36 a0).toInt ≤ 12000 by first | assumption | omega) (show 1 < (x3).toInt → (q_I δ 12 36 a0).toInt ≤ 10000 by first | assumption | omega) (show 2 < (x3).toInt → (q_I δ 12 36 a0).toInt ≤ 8000 by first | assumption | omega) (show 4 < (x3).toInt → (q_I δ 12 36 a0).toInt ≤ 6000 by first | assumption | omega) (show 8 < (x3).toInt → (q_I δ 12 36 a0).toInt ≤ 4000 by first | assumption | omega) (show (x3).toInt ≤ (k : Int) by first | assumption | omega) (show (x4).toInt < (x5).toInt by first | assumption | omega) (show (x4).toInt + 3 ≤ (x5).toInt by first | assumption | omega) (show 1 ≤ (vx180).toInt by first | assumption | omega) (show (vx180).toInt ≤ 2 by first | assumption | omega) I A) (fun r254 r254p hr255 => ?_)
                            obtain ⟨hq260, ha261, hb262⟩ := hr255
                            obtain ⟨i256, ⟨u263, u264, u265⟩, p257, p258, p259⟩ := hq260
                            have u266 := kp_t kp_r u263
                            have v267 : q_V r254.2 = q_V δ := (u264).trans rfl
                            have v268 := kr_t (kr_r (ad := ad)) u265
                            have f269 := cb_12_36 i256 k_a0
                            have f270 := ti_b r254.1
                            have f271 := ti_b r254.1
                            exact ⟨⟨by assumption, ⟨kp_w (by decide) u266, v267, kr_w (by decide) v268⟩, by first | assumption | omega, by first | assumption | omega, by first | assumption | omega⟩, ha261, hb262⟩
                          · have c272 : r245.1.toInt < vx186.toInt := o_nle h252
                            unfold J_X12_touch_252
                            try rw [A.1]
                            try rw [A.2.1]
                            try rw [A.2.2.1]
                            try rw [A.2.2.2.1]
                            refine ok2_bind (v_bX12_inRoom L hN (a0 := a0) (x1 := x1) (x2 := x2) (x3 := x3) (x4 := x4) (x5 := x5) ih k_a0 (show 2 ≤ (x3).toInt by first | assumption | omega) (show (x3).toInt ≤ 16 by first | assumption | omega) (show 0 ≤ (x4).toInt by first | assumption | omega) (show (x4).toInt ≤ (x5).toInt by first | assumption | omega) (show (x5).toInt ≤ (x4).toInt + 2000 by first | assumption | omega) (show (x5).toInt ≤ (q_I δ 12 36 a0).toInt by first | assumption | omega) (show (q_I δ 12 36 a0).toInt ≤ 12000 by first | assumption | omega) (show 1 < (x3).toInt → (q_I δ 12 36 a0).toInt ≤ 10000 by first | assumption | omega) (show 2 < (x3).toInt → (q_I δ 12 36 a0).toInt ≤ 8000 by first | assumption | omega) (show 4 < (x3).toInt → (q_I δ 12 36 a0).toInt ≤ 6000 by first | assumption | omega) (show 8 < (x3).toInt → (q_I δ 12 36 a0).toInt ≤ 4000 by first | assumption | omega) (show (x3).toInt ≤ (k : Int) by first | assumption | omega) I A) (fun r273 r273p hr274 => ?_)
                            obtain ⟨hq280, ha281, hb282⟩ := hr274
                            try rw [hb282]
                            obtain ⟨i275, ⟨u283, u284, u285⟩, p276, p277, p278, p279⟩ := hq280
                            have u286 := kp_t kp_r u283
                            have v287 : q_V r273.2 = q_V δ := (u284).trans rfl
                            have v288 := kr_t (kr_r (ad := ad)) u285
                            try rw [ha281.1]
                            try rw [ha281.2.1]
                            try rw [ha281.2.2.1]
                            try rw [ha281.2.2.2.1]
                            have f289 := cb_12_36 i275 k_a0
                            have f290 := ti_b r273.1
                            have f291 := ti_b r273.1
                            first | (have q293 := te_add vx180 r273.1 (by omega) (by omega); obtain ⟨f294, f295, f296⟩ := q293) | (obtain ⟨q293, f294, f295, f296⟩ := ti_add vx180 r273.1)
                            exact ok2_some (show (RI ad h.1 δ0 r273.2 ∧ (kp [(12, 36)] δ r273.2 ∧ q_V r273.2 = q_V δ ∧ kr ad [119] δ r273.2) ∧ (q_I r273.2 12 36 a0).toInt = (q_I δ 12 36 a0).toInt ∧ 1 ≤ ((vx180 + r273.1)).toInt ∧ ((vx180 + r273.1)).toInt ≤ 4 * (x3).toInt - 3) ∧ AG ad a0 r273.2 r273p.2 ∧ (vx180 + r273.1) = (vx180 + r273.1) from ⟨⟨i275, ⟨kp_w (by decide) u286, v287, kr_w (by decide) v288⟩, by first | assumption | omega, by first | assumption | omega, by first | assumption | omega⟩, ha281, rfl⟩)
                    · have c297 : (x5 - x4).toInt < (3 : Int) := o_nle h138
                      unfold J_X12_touch_174
                      try rw [A.1]
                      try rw [A.2.1]
                      try rw [A.2.2.1]
                      try rw [A.2.2.2.1]
                      exact ok2_some (show (RI ad h.1 δ0 δ ∧ (kp [(12, 36)] δ δ ∧ q_V δ = q_V δ ∧ kr ad [119] δ δ) ∧ (q_I δ 12 36 a0).toInt = (q_I δ 12 36 a0).toInt ∧ 1 ≤ (1 : Int) ∧ (1 : Int) ≤ 4 * (x3).toInt - 3) ∧ AG ad a0 δ δp ∧ (1 : Int32) = (1 : Int32) from ⟨⟨I, ⟨kp_w (by decide) kp_r, rfl, kr_w (by decide) (kr_r (ad := ad))⟩, by first | assumption | omega, by first | assumption | omega, by first | assumption | omega⟩, A, rfl⟩)
                  · have c298 : (1 : Int) ≠ (0 : Int) := o_ne h131
                    unfold J_X12_touch_174
                    try rw [A.1]
                    try rw [A.2.1]
                    try rw [A.2.2.1]
                    try rw [A.2.2.2.1]
                    exact ok2_some (show (RI ad h.1 δ0 δ ∧ (kp [(12, 36)] δ δ ∧ q_V δ = q_V δ ∧ kr ad [119] δ δ) ∧ (q_I δ 12 36 a0).toInt = (q_I δ 12 36 a0).toInt ∧ 1 ≤ (1 : Int) ∧ (1 : Int) ≤ 4 * (x3).toInt - 3) ∧ AG ad a0 δ δp ∧ (1 : Int32) = (1 : Int32) from ⟨⟨I, ⟨kp_w (by decide) kp_r, rfl, kr_w (by decide) (kr_r (ad := ad))⟩, by first | assumption | omega, by first | assumption | omega, by first | assumption | omega⟩, A, rfl⟩)
                · have c299 : vx63.toInt ≤ x2.toInt := o_nlt h129
                  refine ok2_ite (fun h300 => ?_) (fun h300 => ?_)
                  · have c301 : x2.toInt < vx76.toInt := o_lt h300
                    unfold J_X12_touch_158
                    try rw [A.1]
                    try rw [A.2.1]
                    try rw [A.2.2.1]
                    try rw [A.2.2.2.1]
                    refine ok2_ite (fun h302 => ?_) (fun h302 => ?_)
                    · have c303 : (0 : Int) = (0 : Int) := o_eq h302
                      first | (have q305 := te_sub x5 x4 (by omega) (by omega); obtain ⟨f306, f307, f308⟩ := q305) | (obtain ⟨q305, f306, f307, f308⟩ := ti_sub x5 x4)
                      refine ok2_ite (fun h309 => ?_) (fun h309 => ?_)
                      · have c310 : (3 : Int) ≤ (x5 - x4).toInt := o_le h309
                        refine ok2_bind (v_X12_lowerBits L hN (a0 := a0) (x1 := x3) k_a0 I A) (fun r311 r311p hr312 => ?_)
                        obtain ⟨hq317, ha318, hb319⟩ := hr312
                        try rw [hb319]
                        try rw [ha318]
                        obtain ⟨i313, p314, p315, p316⟩ := hq317
                        try rw [i313]
                        have f320 := cb_12_12 I k_a0
                        have f321 := ti_b r311.1
                        have f322 := ti_b r311.1
                        refine ok2_bind (v_X12_roomMany L hN (a0 := a0) (x1 := x2) (x2 := x3) (x3 := x4) (x4 := x5) k_a0 (show 0 ≤ (x4).toInt by first | assumption | omega) (show (x4).toInt ≤ (x5).toInt by first | assumption | omega) (show (x5).toInt ≤ 14000 by first | assumption | omega) (show (x5).toInt ≤ (q_I δ 12 36 a0).toInt by first | assumption | omega) I A) (fun r323 r323p hr324 => ?_)
                        obtain ⟨hq326, ha327, hb328⟩ := hr324
                        try rw [hb328]
                        try rw [ha327]
                        have i325 := hq326
                        try rw [i325]
                        have f329 := ti_b r323.1
                        refine ok2_ite (fun h330 => ?_) (fun h330 => ?_)
                        · have c331 : r323.1.toInt ≤ (0 : Int) := o_le h330
                          refine ok2_mono (vj_X12_touch_267 L hN (a0 := a0) (x1 := x1) (x2 := x2) (x3 := x3) (x4 := x4) (x5 := x5) (x9v := (1 : Int32)) (x10v := r311.1) ih k_a0 (show 2 ≤ (x3).toInt by first | assumption | omega) (show (x3).toInt ≤ 16 by first | assumption | omega) (show 0 ≤ (x4).toInt by first | assumption | omega) (show (x4).toInt ≤ (x5).toInt by first | assumption | omega) (show (x5).toInt ≤ (x4).toInt + 2000 by first | assumption | omega) (show (x5).toInt ≤ (q_I δ 12 36 a0).toInt by first | assumption | omega) (show (q_I δ 12 36 a0).toInt ≤ 12000 by first | assumption | omega) (show 1 < (x3).toInt → (q_I δ 12 36 a0).toInt ≤ 10000 by first | assumption | omega) (show 2 < (x3).toInt → (q_I δ 12 36 a0).toInt ≤ 8000 by first | assumption | omega) (show 4 < (x3).toInt → (q_I δ 12 36 a0).toInt ≤ 6000 by first | assumption | omega) (show 8 < (x3).toInt → (q_I δ 12 36 a0).toInt ≤ 4000 by first | assumption | omega) (show (x3).toInt ≤ (k : Int) by first | assumption | omega) (show (x4).toInt < (x5).toInt by first | assumption | omega) (show (x4).toInt + 3 ≤ (x5).toInt by first | assumption | omega) (show 1 ≤ (1 : Int) by first | assumption | omega) (show (1 : Int) ≤ 2 by first | assumption | omega) I A) (fun r332 r332p hr333 => ?_)
                          obtain ⟨hq338, ha339, hb340⟩ := hr333
                          obtain ⟨i334, ⟨u341, u342, u343⟩, p335, p336, p337⟩ := hq338
                          have u344 := kp_t kp_r u341
                          have v345 : q_V r332.2 = q_V δ := (u342).trans rfl
                          have v346 := kr_t (kr_r (ad := ad)) u343
                          have f347 := cb_12_36 i334 k_a0
                          have f348 := ti_b r332.1
                          have f349 := ti_b r332.1
                          exact ⟨⟨by assumption, ⟨kp_w (by decide) u344, v345, kr_w (by decide) v346⟩, by first | assumption | omega, by first | assumption | omega, by first | assumption | omega⟩, ha339, hb340⟩
                        · have c350 : (0 : Int) < r323.1.toInt := o_nle h330
                          refine ok2_biv (fun vx351 e352 => ?_)
                          first | (have q353 := te_cadd (c := 1) (n := 1) rfl (1 : Int32) (by omega) (by omega); rw [← e352] at q353; obtain ⟨f354, f355, f356⟩ := q353) | (obtain ⟨q353, f354, f355, f356⟩ : ∃ q : Int, vx351.toInt = (1 : Int) + (1 : Int) + 4294967296 * q ∧ -2147483648 ≤ vx351.toInt ∧ vx351.toInt ≤ 2147483647 := by rw [e352]; exact ti_cadd (c := 1) (n := 1) rfl (1 : Int32))
                          have f359 := ti_b (x2 &&& (((1 : Int32) <<< (r311.1 &&& 31)) - (1 : Int32)))
                          refine ok2_biv (fun vx357 e358 => ?_)
                          have f360 : vx357.toInt = (x2 &&& (((1 : Int32) <<< (r311.1 &&& 31)) - (1 : Int32))).toInt := congrArg Int32.toInt e358
                          refine ok2_ite (fun h361 => ?_) (fun h361 => ?_)
                          · have c362 : x1.toInt = (3 : Int) := o_eq h361
                            refine ok2_bind (v_X12_roomEnd L hN (a0 := a0) (x1 := x2) (x2 := x3) (x3 := x4) (x4 := x5) (x5 := (0 : Int32)) k_a0 (show 0 ≤ (x4).toInt by first | assumption | omega) (show (x4).toInt ≤ (x5).toInt by first | assumption | omega) (show (x5).toInt ≤ 14000 by first | assumption | omega) (show (x5).toInt ≤ (q_I δ 12 36 a0).toInt by first | assumption | omega) I A) (fun r363 r363p hr364 => ?_)
                            obtain ⟨hq366, ha367, hb368⟩ := hr364
                            try rw [hb368]
                            try rw [ha367]
                            have i365 := hq366
                            try rw [i365]
                            have f369 := ti_b r363.1
                            refine ok2_ite (fun h370 => ?_) (fun h370 => ?_)
                            · have c371 : r363.1.toInt ≤ vx357.toInt := o_le h370
                              refine ok2_mono (vj_X12_touch_267 L hN (a0 := a0) (x1 := x1) (x2 := x2) (x3 := x3) (x4 := x4) (x5 := x5) (x9v := vx351) (x10v := r311.1) ih k_a0 (show 2 ≤ (x3).toInt by first | assumption | omega) (show (x3).toInt ≤ 16 by first | assumption | omega) (show 0 ≤ (x4).toInt by first | assumption | omega) (show (x4).toInt ≤ (x5).toInt by first | assumption | omega) (show (x5).toInt ≤ (x4).toInt + 2000 by first | assumption | omega) (show (x5).toInt ≤ (q_I δ 12 36 a0).toInt by first | assumption | omega) (show (q_I δ 12 36 a0).toInt ≤ 12000 by first | assumption | omega) (show 1 < (x3).toInt → (q_I δ 12 36 a0).toInt ≤ 10000 by first | assumption | omega) (show 2 < (x3).toInt → (q_I δ 12 36 a0).toInt ≤ 8000 by first | assumption | omega) (show 4 < (x3).toInt → (q_I δ 12 36 a0).toInt ≤ 6000 by first | assumption | omega) (show 8 < (x3).toInt → (q_I δ 12 36 a0).toInt ≤ 4000 by first | assumption | omega) (show (x3).toInt ≤ (k : Int) by first | assumption | omega) (show (x4).toInt < (x5).toInt by first | assumption | omega) (show (x4).toInt + 3 ≤ (x5).toInt by first | assumption | omega) (show 1 ≤ (vx351).toInt by first | assumption | omega) (show (vx351).toInt ≤ 2 by first | assumption | omega) I A) (fun r372 r372p hr373 => ?_)
                              obtain ⟨hq378, ha379, hb380⟩ := hr373
                              obtain ⟨i374, ⟨u381, u382, u383⟩, p375, p376, p377⟩ := hq378
                              have u384 := kp_t kp_r u381
                              have v385 : q_V r372.2 = q_V δ := (u382).trans rfl
                              have v386 := kr_t (kr_r (ad := ad)) u383
                              have f387 := cb_12_36 i374 k_a0
                              have f388 := ti_b r372.1
                              have f389 := ti_b r372.1
                              exact ⟨⟨by assumption, ⟨kp_w (by decide) u384, v385, kr_w (by decide) v386⟩, by first | assumption | omega, by first | assumption | omega, by first | assumption | omega⟩, ha379, hb380⟩
                            · have c390 : vx357.toInt < r363.1.toInt := o_nle h370
                              unfold J_X12_touch_252
                              try rw [A.1]
                              try rw [A.2.1]
                              try rw [A.2.2.1]
                              try rw [A.2.2.2.1]
                              refine ok2_bind (v_bX12_inRoom L hN (a0 := a0) (x1 := x1) (x2 := x2) (x3 := x3) (x4 := x4) (x5 := x5) ih k_a0 (show 2 ≤ (x3).toInt by first | assumption | omega) (show (x3).toInt ≤ 16 by first | assumption | omega) (show 0 ≤ (x4).toInt by first | assumption | omega) (show (x4).toInt ≤ (x5).toInt by first | assumption | omega) (show (x5).toInt ≤ (x4).toInt + 2000 by first | assumption | omega) (show (x5).toInt ≤ (q_I δ 12 36 a0).toInt by first | assumption | omega) (show (q_I δ 12 36 a0).toInt ≤ 12000 by first | assumption | omega) (show 1 < (x3).toInt → (q_I δ 12 36 a0).toInt ≤ 10000 by first | assumption | omega) (show 2 < (x3).toInt → (q_I δ 12 36 a0).toInt ≤ 8000 by first | assumption | omega) (show 4 < (x3).toInt → (q_I δ 12 36 a0).toInt ≤ 6000 by first | assumption | omega) (show 8 < (x3).toInt → (q_I δ 12 36 a0).toInt ≤ 4000 by first | assumption | omega) (show (x3).toInt ≤ (k : Int) by first | assumption | omega) I A) (fun r391 r391p hr392 => ?_)
                              obtain ⟨hq398, ha399, hb400⟩ := hr392
                              try rw [hb400]
                              obtain ⟨i393, ⟨u401, u402, u403⟩, p394, p395, p396, p397⟩ := hq398
                              have u404 := kp_t kp_r u401
                              have v405 : q_V r391.2 = q_V δ := (u402).trans rfl
                              have v406 := kr_t (kr_r (ad := ad)) u403
                              try rw [ha399.1]
                              try rw [ha399.2.1]
                              try rw [ha399.2.2.1]
                              try rw [ha399.2.2.2.1]
                              have f407 := cb_12_36 i393 k_a0
                              have f408 := ti_b r391.1
                              have f409 := ti_b r391.1
                              first | (have q411 := te_add vx351 r391.1 (by omega) (by omega); obtain ⟨f412, f413, f414⟩ := q411) | (obtain ⟨q411, f412, f413, f414⟩ := ti_add vx351 r391.1)
                              exact ok2_some (show (RI ad h.1 δ0 r391.2 ∧ (kp [(12, 36)] δ r391.2 ∧ q_V r391.2 = q_V δ ∧ kr ad [119] δ r391.2) ∧ (q_I r391.2 12 36 a0).toInt = (q_I δ 12 36 a0).toInt ∧ 1 ≤ ((vx351 + r391.1)).toInt ∧ ((vx351 + r391.1)).toInt ≤ 4 * (x3).toInt - 3) ∧ AG ad a0 r391.2 r391p.2 ∧ (vx351 + r391.1) = (vx351 + r391.1) from ⟨⟨i393, ⟨kp_w (by decide) u404, v405, kr_w (by decide) v406⟩, by first | assumption | omega, by first | assumption | omega, by first | assumption | omega⟩, ha399, rfl⟩)
                          · have c415 : x1.toInt ≠ (3 : Int) := o_ne h361
                            refine ok2_bind (v_X12_roomEnd L hN (a0 := a0) (x1 := x2) (x2 := x3) (x3 := x4) (x4 := x5) (x5 := (1 : Int32)) k_a0 (show 0 ≤ (x4).toInt by first | assumption | omega) (show (x4).toInt ≤ (x5).toInt by first | assumption | omega) (show (x5).toInt ≤ 14000 by first | assumption | omega) (show (x5).toInt ≤ (q_I δ 12 36 a0).toInt by first | assumption | omega) I A) (fun r416 r416p hr417 => ?_)
                            obtain ⟨hq419, ha420, hb421⟩ := hr417
                            try rw [hb421]
                            try rw [ha420]
                            have i418 := hq419
                            try rw [i418]
                            have f422 := ti_b r416.1
                            refine ok2_ite (fun h423 => ?_) (fun h423 => ?_)
                            · have c424 : vx357.toInt ≤ r416.1.toInt := o_le h423
                              refine ok2_mono (vj_X12_touch_267 L hN (a0 := a0) (x1 := x1) (x2 := x2) (x3 := x3) (x4 := x4) (x5 := x5) (x9v := vx351) (x10v := r311.1) ih k_a0 (show 2 ≤ (x3).toInt by first | assumption | omega) (show (x3).toInt ≤ 16 by first | assumption | omega) (show 0 ≤ (x4).toInt by first | assumption | omega) (show (x4).toInt ≤ (x5).toInt by first | assumption | omega) (show (x5).toInt ≤ (x4).toInt + 2000 by first | assumption | omega) (show (x5).toInt ≤ (q_I δ 12 36 a0).toInt by first | assumption | omega) (show (q_I δ 12 36 a0).toInt ≤ 12000 by first | assumption | omega) (show 1 < (x3).toInt → (q_I δ 12 36 a0).toInt ≤ 10000 by first | assumption | omega) (show 2 < (x3).toInt → (q_I δ 12 36 a0).toInt ≤ 8000 by first | assumption | omega) (show 4 < (x3).toInt → (q_I δ 12 36 a0).toInt ≤ 6000 by first | assumption | omega) (show 8 < (x3).toInt → (q_I δ 12 36 a0).toInt ≤ 4000 by first | assumption | omega) (show (x3).toInt ≤ (k : Int) by first | assumption | omega) (show (x4).toInt < (x5).toInt by first | assumption | omega) (show (x4).toInt + 3 ≤ (x5).toInt by first | assumption | omega) (show 1 ≤ (vx351).toInt by first | assumption | omega) (show (vx351).toInt ≤ 2 by first | assumption | omega) I A) (fun r425 r425p hr426 => ?_)
                              obtain ⟨hq431, ha432, hb433⟩ := hr426
                              obtain ⟨i427, ⟨u434, u435, u436⟩, p428, p429, p430⟩ := hq431
                              have u437 := kp_t kp_r u434
                              have v438 : q_V r425.2 = q_V δ := (u435).trans rfl
                              have v439 := kr_t (kr_r (ad := ad)) u436
                              have f440 := cb_12_36 i427 k_a0
                              have f441 := ti_b r425.1
                              have f442 := ti_b r425.1
                              exact ⟨⟨by assumption, ⟨kp_w (by decide) u437, v438, kr_w (by decide) v439⟩, by first | assumption | omega, by first | assumption | omega, by first | assumption | omega⟩, ha432, hb433⟩
                            · have c443 : r416.1.toInt < vx357.toInt := o_nle h423
                              unfold J_X12_touch_252
                              try rw [A.1]
                              try rw [A.2.1]
                              try rw [A.2.2.1]
                              try rw [A.2.2.2.1]
                              refine ok2_bind (v_bX12_inRoom L hN (a0 := a0) (x1 := x1) (x2 := x2) (x3 := x3) (x4 := x4) (x5 := x5) ih k_a0 (show 2 ≤ (x3).toInt by first | assumption | omega) (show (x3).toInt ≤ 16 by first | assumption | omega) (show 0 ≤ (x4).toInt by first | assumption | omega) (show (x4).toInt ≤ (x5).toInt by first | assumption | omega) (show (x5).toInt ≤ (x4).toInt + 2000 by first | assumption | omega) (show (x5).toInt ≤ (q_I δ 12 36 a0).toInt by first | assumption | omega) (show (q_I δ 12 36 a0).toInt ≤ 12000 by first | assumption | omega) (show 1 < (x3).toInt → (q_I δ 12 36 a0).toInt ≤ 10000 by first | assumption | omega) (show 2 < (x3).toInt → (q_I δ 12 36 a0).toInt ≤ 8000 by first | assumption | omega) (show 4 < (x3).toInt → (q_I δ 12 36 a0).toInt ≤ 6000 by first | assumption | omega) (show 8 < (x3).toInt → (q_I δ 12 36 a0).toInt ≤ 4000 by first | assumption | omega) (show (x3).toInt ≤ (k : Int) by first | assumption | omega) I A) (fun r444 r444p hr445 => ?_)
                              obtain ⟨hq451, ha452, hb453⟩ := hr445
                              try rw [hb453]
                              obtain ⟨i446, ⟨u454, u455, u456⟩, p447, p448, p449, p450⟩ := hq451
                              have u457 := kp_t kp_r u454
                              have v458 : q_V r444.2 = q_V δ := (u455).trans rfl
                              have v459 := kr_t (kr_r (ad := ad)) u456
                              try rw [ha452.1]
                              try rw [ha452.2.1]
                              try rw [ha452.2.2.1]
                              try rw [ha452.2.2.2.1]
                              have f460 := cb_12_36 i446 k_a0
                              have f461 := ti_b r444.1
                              have f462 := ti_b r444.1
                              first | (have q464 := te_add vx351 r444.1 (by omega) (by omega); obtain ⟨f465, f466, f467⟩ := q464) | (obtain ⟨q464, f465, f466, f467⟩ := ti_add vx351 r444.1)
                              exact ok2_some (show (RI ad h.1 δ0 r444.2 ∧ (kp [(12, 36)] δ r444.2 ∧ q_V r444.2 = q_V δ ∧ kr ad [119] δ r444.2) ∧ (q_I r444.2 12 36 a0).toInt = (q_I δ 12 36 a0).toInt ∧ 1 ≤ ((vx351 + r444.1)).toInt ∧ ((vx351 + r444.1)).toInt ≤ 4 * (x3).toInt - 3) ∧ AG ad a0 r444.2 r444p.2 ∧ (vx351 + r444.1) = (vx351 + r444.1) from ⟨⟨i446, ⟨kp_w (by decide) u457, v458, kr_w (by decide) v459⟩, by first | assumption | omega, by first | assumption | omega, by first | assumption | omega⟩, ha452, rfl⟩)
                      · have c468 : (x5 - x4).toInt < (3 : Int) := o_nle h309
                        unfold J_X12_touch_174
                        try rw [A.1]
                        try rw [A.2.1]
                        try rw [A.2.2.1]
                        try rw [A.2.2.2.1]
                        exact ok2_some (show (RI ad h.1 δ0 δ ∧ (kp [(12, 36)] δ δ ∧ q_V δ = q_V δ ∧ kr ad [119] δ δ) ∧ (q_I δ 12 36 a0).toInt = (q_I δ 12 36 a0).toInt ∧ 1 ≤ (1 : Int) ∧ (1 : Int) ≤ 4 * (x3).toInt - 3) ∧ AG ad a0 δ δp ∧ (1 : Int32) = (1 : Int32) from ⟨⟨I, ⟨kp_w (by decide) kp_r, rfl, kr_w (by decide) (kr_r (ad := ad))⟩, by first | assumption | omega, by first | assumption | omega, by first | assumption | omega⟩, A, rfl⟩)
                    · have c469 : (0 : Int) ≠ (0 : Int) := o_ne h302
                      unfold J_X12_touch_174
                      try rw [A.1]
                      try rw [A.2.1]
                      try rw [A.2.2.1]
                      try rw [A.2.2.2.1]
                      exact ok2_some (show (RI ad h.1 δ0 δ ∧ (kp [(12, 36)] δ δ ∧ q_V δ = q_V δ ∧ kr ad [119] δ δ) ∧ (q_I δ 12 36 a0).toInt = (q_I δ 12 36 a0).toInt ∧ 1 ≤ (1 : Int) ∧ (1 : Int) ≤ 4 * (x3).toInt - 3) ∧ AG ad a0 δ δp ∧ (1 : Int32) = (1 : Int32) from ⟨⟨I, ⟨kp_w (by decide) kp_r, rfl, kr_w (by decide) (kr_r (ad := ad))⟩, by first | assumption | omega, by first | assumption | omega, by first | assumption | omega⟩, A, rfl⟩)
                  · have c470 : vx76.toInt ≤ x2.toInt := o_nlt h300
                    unfold J_X12_touch_133
                    try rw [A.1]
                    try rw [A.2.1]
                    try rw [A.2.2.1]
                    try rw [A.2.2.2.1]
                    unfold J_X12_touch_158
                    try rw [A.1]
                    try rw [A.2.1]
                    try rw [A.2.2.1]
                    try rw [A.2.2.2.1]
                    refine ok2_ite (fun h471 => ?_) (fun h471 => ?_)
                    · have c472 : (1 : Int) = (0 : Int) := o_eq h471
                      first | (have q474 := te_sub x5 x4 (by omega) (by omega); obtain ⟨f475, f476, f477⟩ := q474) | (obtain ⟨q474, f475, f476, f477⟩ := ti_sub x5 x4)
                      refine ok2_ite (fun h478 => ?_) (fun h478 => ?_)
                      · have c479 : (3 : Int) ≤ (x5 - x4).toInt := o_le h478
                        refine ok2_bind (v_X12_lowerBits L hN (a0 := a0) (x1 := x3) k_a0 I A) (fun r480 r480p hr481 => ?_)
                        obtain ⟨hq486, ha487, hb488⟩ := hr481
                        try rw [hb488]
                        try rw [ha487]
                        obtain ⟨i482, p483, p484, p485⟩ := hq486
                        try rw [i482]
                        have f489 := cb_12_12 I k_a0
                        have f490 := ti_b r480.1
                        have f491 := ti_b r480.1
                        refine ok2_bind (v_X12_roomMany L hN (a0 := a0) (x1 := x2) (x2 := x3) (x3 := x4) (x4 := x5) k_a0 (show 0 ≤ (x4).toInt by first | assumption | omega) (show (x4).toInt ≤ (x5).toInt by first | assumption | omega) (show (x5).toInt ≤ 14000 by first | assumption | omega) (show (x5).toInt ≤ (q_I δ 12 36 a0).toInt by first | assumption | omega) I A) (fun r492 r492p hr493 => ?_)
                        obtain ⟨hq495, ha496, hb497⟩ := hr493
                        try rw [hb497]
                        try rw [ha496]
                        have i494 := hq495
                        try rw [i494]
                        have f498 := ti_b r492.1
                        refine ok2_ite (fun h499 => ?_) (fun h499 => ?_)
                        · have c500 : r492.1.toInt ≤ (0 : Int) := o_le h499
                          refine ok2_mono (vj_X12_touch_267 L hN (a0 := a0) (x1 := x1) (x2 := x2) (x3 := x3) (x4 := x4) (x5 := x5) (x9v := (1 : Int32)) (x10v := r480.1) ih k_a0 (show 2 ≤ (x3).toInt by first | assumption | omega) (show (x3).toInt ≤ 16 by first | assumption | omega) (show 0 ≤ (x4).toInt by first | assumption | omega) (show (x4).toInt ≤ (x5).toInt by first | assumption | omega) (show (x5).toInt ≤ (x4).toInt + 2000 by first | assumption | omega) (show (x5).toInt ≤ (q_I δ 12 36 a0).toInt by first | assumption | omega) (show (q_I δ 12 36 a0).toInt ≤ 12000 by first | assumption | omega) (show 1 < (x3).toInt → (q_I δ 12 36 a0).toInt ≤ 10000 by first | assumption | omega) (show 2 < (x3).toInt → (q_I δ 12 36 a0).toInt ≤ 8000 by first | assumption | omega) (show 4 < (x3).toInt → (q_I δ 12 36 a0).toInt ≤ 6000 by first | assumption | omega) (show 8 < (x3).toInt → (q_I δ 12 36 a0).toInt ≤ 4000 by first | assumption | omega) (show (x3).toInt ≤ (k : Int) by first | assumption | omega) (show (x4).toInt < (x5).toInt by first | assumption | omega) (show (x4).toInt + 3 ≤ (x5).toInt by first | assumption | omega) (show 1 ≤ (1 : Int) by first | assumption | omega) (show (1 : Int) ≤ 2 by first | assumption | omega) I A) (fun r501 r501p hr502 => ?_)
                          obtain ⟨hq507, ha508, hb509⟩ := hr502
                          obtain ⟨i503, ⟨u510, u511, u512⟩, p504, p505, p506⟩ := hq507
                          have u513 := kp_t kp_r u510
                          have v514 : q_V r501.2 = q_V δ := (u511).trans rfl
                          have v515 := kr_t (kr_r (ad := ad)) u512
                          have f516 := cb_12_36 i503 k_a0
                          have f517 := ti_b r501.1
                          have f518 := ti_b r501.1
                          exact ⟨⟨by assumption, ⟨kp_w (by decide) u513, v514, kr_w (by decide) v515⟩, by first | assumption | omega, by first | assumption | omega, by first | assumption | omega⟩, ha508, hb509⟩
                        · have c519 : (0 : Int) < r492.1.toInt := o_nle h499
                          refine ok2_biv (fun vx520 e521 => ?_)
                          first | (have q522 := te_cadd (c := 1) (n := 1) rfl (1 : Int32) (by omega) (by omega); rw [← e521] at q522; obtain ⟨f523, f524, f525⟩ := q522) | (obtain ⟨q522, f523, f524, f525⟩ : ∃ q : Int, vx520.toInt = (1 : Int) + (1 : Int) + 4294967296 * q ∧ -2147483648 ≤ vx520.toInt ∧ vx520.toInt ≤ 2147483647 := by rw [e521]; exact ti_cadd (c := 1) (n := 1) rfl (1 : Int32))
                          have f528 := ti_b (x2 &&& (((1 : Int32) <<< (r480.1 &&& 31)) - (1 : Int32)))
                          refine ok2_biv (fun vx526 e527 => ?_)
                          have f529 : vx526.toInt = (x2 &&& (((1 : Int32) <<< (r480.1 &&& 31)) - (1 : Int32))).toInt := congrArg Int32.toInt e527
                          refine ok2_ite (fun h530 => ?_) (fun h530 => ?_)
                          · have c531 : x1.toInt = (3 : Int) := o_eq h530
                            refine ok2_bind (v_X12_roomEnd L hN (a0 := a0) (x1 := x2) (x2 := x3) (x3 := x4) (x4 := x5) (x5 := (0 : Int32)) k_a0 (show 0 ≤ (x4).toInt by first | assumption | omega) (show (x4).toInt ≤ (x5).toInt by first | assumption | omega) (show (x5).toInt ≤ 14000 by first | assumption | omega) (show (x5).toInt ≤ (q_I δ 12 36 a0).toInt by first | assumption | omega) I A) (fun r532 r532p hr533 => ?_)
                            obtain ⟨hq535, ha536, hb537⟩ := hr533
                            try rw [hb537]
                            try rw [ha536]
                            have i534 := hq535
                            try rw [i534]
                            have f538 := ti_b r532.1
                            refine ok2_ite (fun h539 => ?_) (fun h539 => ?_)
                            · have c540 : r532.1.toInt ≤ vx526.toInt := o_le h539
                              refine ok2_mono (vj_X12_touch_267 L hN (a0 := a0) (x1 := x1) (x2 := x2) (x3 := x3) (x4 := x4) (x5 := x5) (x9v := vx520) (x10v := r480.1) ih k_a0 (show 2 ≤ (x3).toInt by first | assumption | omega) (show (x3).toInt ≤ 16 by first | assumption | omega) (show 0 ≤ (x4).toInt by first | assumption | omega) (show (x4).toInt ≤ (x5).toInt by first | assumption | omega) (show (x5).toInt ≤ (x4).toInt + 2000 by first | assumption | omega) (show (x5).toInt ≤ (q_I δ 12 36 a0).toInt by first | assumption | omega) (show (q_I δ 12 36 a0).toInt ≤ 12000 by first | assumption | omega) (show 1 < (x3).toInt → (q_I δ 12 36 a0).toInt ≤ 10000 by first | assumption | omega) (show 2 < (x3).toInt → (q_I δ 12 36 a0).toInt ≤ 8000 by first | assumption | omega) (show 4 < (x3).toInt → (q_I δ 12 36 a0).toInt ≤ 6000 by first | assumption | omega) (show 8 < (x3).toInt → (q_I δ 12 36 a0).toInt ≤ 4000 by first | assumption | omega) (show (x3).toInt ≤ (k : Int) by first | assumption | omega) (show (x4).toInt < (x5).toInt by first | assumption | omega) (show (x4).toInt + 3 ≤ (x5).toInt by first | assumption | omega) (show 1 ≤ (vx520).toInt by first | assumption | omega) (show (vx520).toInt ≤ 2 by first | assumption | omega) I A) (fun r541 r541p hr542 => ?_)
                              obtain ⟨hq547, ha548, hb549⟩ := hr542
                              obtain ⟨i543, ⟨u550, u551, u552⟩, p544, p545, p546⟩ := hq547
                              have u553 := kp_t kp_r u550
                              have v554 : q_V r541.2 = q_V δ := (u551).trans rfl
                              have v555 := kr_t (kr_r (ad := ad)) u552
                              have f556 := cb_12_36 i543 k_a0
                              have f557 := ti_b r541.1
                              have f558 := ti_b r541.1
                              exact ⟨⟨by assumption, ⟨kp_w (by decide) u553, v554, kr_w (by decide) v555⟩, by first | assumption | omega, by first | assumption | omega, by first | assumption | omega⟩, ha548, hb549⟩
                            · have c559 : vx526.toInt < r532.1.toInt := o_nle h539
                              unfold J_X12_touch_252
                              try rw [A.1]
                              try rw [A.2.1]
                              try rw [A.2.2.1]
                              try rw [A.2.2.2.1]
                              refine ok2_bind (v_bX12_inRoom L hN (a0 := a0) (x1 := x1) (x2 := x2) (x3 := x3) (x4 := x4) (x5 := x5) ih k_a0 (show 2 ≤ (x3).toInt by first | assumption | omega) (show (x3).toInt ≤ 16 by first | assumption | omega) (show 0 ≤ (x4).toInt by first | assumption | omega) (show (x4).toInt ≤ (x5).toInt by first | assumption | omega) (show (x5).toInt ≤ (x4).toInt + 2000 by first | assumption | omega) (show (x5).toInt ≤ (q_I δ 12 36 a0).toInt by first | assumption | omega) (show (q_I δ 12 36 a0).toInt ≤ 12000 by first | assumption | omega) (show 1 < (x3).toInt → (q_I δ 12 36 a0).toInt ≤ 10000 by first | assumption | omega) (show 2 < (x3).toInt → (q_I δ 12 36 a0).toInt ≤ 8000 by first | assumption | omega) (show 4 < (x3).toInt → (q_I δ 12 36 a0).toInt ≤ 6000 by first | assumption | omega) (show 8 < (x3).toInt → (q_I δ 12 36 a0).toInt ≤ 4000 by first | assumption | omega) (show (x3).toInt ≤ (k : Int) by first | assumption | omega) I A) (fun r560 r560p hr561 => ?_)
                              obtain ⟨hq567, ha568, hb569⟩ := hr561
                              try rw [hb569]
                              obtain ⟨i562, ⟨u570, u571, u572⟩, p563, p564, p565, p566⟩ := hq567
                              have u573 := kp_t kp_r u570
                              have v574 : q_V r560.2 = q_V δ := (u571).trans rfl
                              have v575 := kr_t (kr_r (ad := ad)) u572
                              try rw [ha568.1]
                              try rw [ha568.2.1]
                              try rw [ha568.2.2.1]
                              try rw [ha568.2.2.2.1]
                              have f576 := cb_12_36 i562 k_a0
                              have f577 := ti_b r560.1
                              have f578 := ti_b r560.1
                              first | (have q580 := te_add vx520 r560.1 (by omega) (by omega); obtain ⟨f581, f582, f583⟩ := q580) | (obtain ⟨q580, f581, f582, f583⟩ := ti_add vx520 r560.1)
                              exact ok2_some (show (RI ad h.1 δ0 r560.2 ∧ (kp [(12, 36)] δ r560.2 ∧ q_V r560.2 = q_V δ ∧ kr ad [119] δ r560.2) ∧ (q_I r560.2 12 36 a0).toInt = (q_I δ 12 36 a0).toInt ∧ 1 ≤ ((vx520 + r560.1)).toInt ∧ ((vx520 + r560.1)).toInt ≤ 4 * (x3).toInt - 3) ∧ AG ad a0 r560.2 r560p.2 ∧ (vx520 + r560.1) = (vx520 + r560.1) from ⟨⟨i562, ⟨kp_w (by decide) u573, v574, kr_w (by decide) v575⟩, by first | assumption | omega, by first | assumption | omega, by first | assumption | omega⟩, ha568, rfl⟩)
                          · have c584 : x1.toInt ≠ (3 : Int) := o_ne h530
                            refine ok2_bind (v_X12_roomEnd L hN (a0 := a0) (x1 := x2) (x2 := x3) (x3 := x4) (x4 := x5) (x5 := (1 : Int32)) k_a0 (show 0 ≤ (x4).toInt by first | assumption | omega) (show (x4).toInt ≤ (x5).toInt by first | assumption | omega) (show (x5).toInt ≤ 14000 by first | assumption | omega) (show (x5).toInt ≤ (q_I δ 12 36 a0).toInt by first | assumption | omega) I A) (fun r585 r585p hr586 => ?_)
                            obtain ⟨hq588, ha589, hb590⟩ := hr586
                            try rw [hb590]
                            try rw [ha589]
                            have i587 := hq588
                            try rw [i587]
                            have f591 := ti_b r585.1
                            refine ok2_ite (fun h592 => ?_) (fun h592 => ?_)
                            · have c593 : vx526.toInt ≤ r585.1.toInt := o_le h592
                              refine ok2_mono (vj_X12_touch_267 L hN (a0 := a0) (x1 := x1) (x2 := x2) (x3 := x3) (x4 := x4) (x5 := x5) (x9v := vx520) (x10v := r480.1) ih k_a0 (show 2 ≤ (x3).toInt by first | assumption | omega) (show (x3).toInt ≤ 16 by first | assumption | omega) (show 0 ≤ (x4).toInt by first | assumption | omega) (show (x4).toInt ≤ (x5).toInt by first | assumption | omega) (show (x5).toInt ≤ (x4).toInt + 2000 by first | assumption | omega) (show (x5).toInt ≤ (q_I δ 12 36 a0).toInt by first | assumption | omega) (show (q_I δ 12 36 a0).toInt ≤ 12000 by first | assumption | omega) (show 1 < (x3).toInt → (q_I δ 12 36 a0).toInt ≤ 10000 by first | assumption | omega) (show 2 < (x3).toInt → (q_I δ 12 36 a0).toInt ≤ 8000 by first | assumption | omega) (show 4 < (x3).toInt → (q_I δ 12 36 a0).toInt ≤ 6000 by first | assumption | omega) (show 8 < (x3).toInt → (q_I δ 12 36 a0).toInt ≤ 4000 by first | assumption | omega) (show (x3).toInt ≤ (k : Int) by first | assumption | omega) (show (x4).toInt < (x5).toInt by first | assumption | omega) (show (x4).toInt + 3 ≤ (x5).toInt by first | assumption | omega) (show 1 ≤ (vx520).toInt by first | assumption | omega) (show (vx520).toInt ≤ 2 by first | assumption | omega) I A) (fun r594 r594p hr595 => ?_)
                              obtain ⟨hq600, ha601, hb602⟩ := hr595
                              obtain ⟨i596, ⟨u603, u604, u605⟩, p597, p598, p599⟩ := hq600
                              have u606 := kp_t kp_r u603
                              have v607 : q_V r594.2 = q_V δ := (u604).trans rfl
                              have v608 := kr_t (kr_r (ad := ad)) u605
                              have f609 := cb_12_36 i596 k_a0
                              have f610 := ti_b r594.1
                              have f611 := ti_b r594.1
                              exact ⟨⟨by assumption, ⟨kp_w (by decide) u606, v607, kr_w (by decide) v608⟩, by first | assumption | omega, by first | assumption | omega, by first | assumption | omega⟩, ha601, hb602⟩
                            · have c612 : r585.1.toInt < vx526.toInt := o_nle h592
                              unfold J_X12_touch_252
                              try rw [A.1]
                              try rw [A.2.1]
                              try rw [A.2.2.1]
                              try rw [A.2.2.2.1]
                              refine ok2_bind (v_bX12_inRoom L hN (a0 := a0) (x1 := x1) (x2 := x2) (x3 := x3) (x4 := x4) (x5 := x5) ih k_a0 (show 2 ≤ (x3).toInt by first | assumption | omega) (show (x3).toInt ≤ 16 by first | assumption | omega) (show 0 ≤ (x4).toInt by first | assumption | omega) (show (x4).toInt ≤ (x5).toInt by first | assumption | omega) (show (x5).toInt ≤ (x4).toInt + 2000 by first | assumption | omega) (show (x5).toInt ≤ (q_I δ 12 36 a0).toInt by first | assumption | omega) (show (q_I δ 12 36 a0).toInt ≤ 12000 by first | assumption | omega) (show 1 < (x3).toInt → (q_I δ 12 36 a0).toInt ≤ 10000 by first | assumption | omega) (show 2 < (x3).toInt → (q_I δ 12 36 a0).toInt ≤ 8000 by first | assumption | omega) (show 4 < (x3).toInt → (q_I δ 12 36 a0).toInt ≤ 6000 by first | assumption | omega) (show 8 < (x3).toInt → (q_I δ 12 36 a0).toInt ≤ 4000 by first | assumption | omega) (show (x3).toInt ≤ (k : Int) by first | assumption | omega) I A) (fun r613 r613p hr614 => ?_)
                              obtain ⟨hq620, ha621, hb622⟩ := hr614
                              try rw [hb622]
                              obtain ⟨i615, ⟨u623, u624, u625⟩, p616, p617, p618, p619⟩ := hq620
                              have u626 := kp_t kp_r u623
                              have v627 : q_V r613.2 = q_V δ := (u624).trans rfl
                              have v628 := kr_t (kr_r (ad := ad)) u625
                              try rw [ha621.1]
                              try rw [ha621.2.1]
                              try rw [ha621.2.2.1]
                              try rw [ha621.2.2.2.1]
                              have f629 := cb_12_36 i615 k_a0
                              have f630 := ti_b r613.1
                              have f631 := ti_b r613.1
                              first | (have q633 := te_add vx520 r613.1 (by omega) (by omega); obtain ⟨f634, f635, f636⟩ := q633) | (obtain ⟨q633, f634, f635, f636⟩ := ti_add vx520 r613.1)
                              exact ok2_some (show (RI ad h.1 δ0 r613.2 ∧ (kp [(12, 36)] δ r613.2 ∧ q_V r613.2 = q_V δ ∧ kr ad [119] δ r613.2) ∧ (q_I r613.2 12 36 a0).toInt = (q_I δ 12 36 a0).toInt ∧ 1 ≤ ((vx520 + r613.1)).toInt ∧ ((vx520 + r613.1)).toInt ≤ 4 * (x3).toInt - 3) ∧ AG ad a0 r613.2 r613p.2 ∧ (vx520 + r613.1) = (vx520 + r613.1) from ⟨⟨i615, ⟨kp_w (by decide) u626, v627, kr_w (by decide) v628⟩, by first | assumption | omega, by first | assumption | omega, by first | assumption | omega⟩, ha621, rfl⟩)
                      · have c637 : (x5 - x4).toInt < (3 : Int) := o_nle h478
                        unfold J_X12_touch_174
                        try rw [A.1]
                        try rw [A.2.1]
                        try rw [A.2.2.1]
                        try rw [A.2.2.2.1]
                        exact ok2_some (show (RI ad h.1 δ0 δ ∧ (kp [(12, 36)] δ δ ∧ q_V δ = q_V δ ∧ kr ad [119] δ δ) ∧ (q_I δ 12 36 a0).toInt = (q_I δ 12 36 a0).toInt ∧ 1 ≤ (1 : Int) ∧ (1 : Int) ≤ 4 * (x3).toInt - 3) ∧ AG ad a0 δ δp ∧ (1 : Int32) = (1 : Int32) from ⟨⟨I, ⟨kp_w (by decide) kp_r, rfl, kr_w (by decide) (kr_r (ad := ad))⟩, by first | assumption | omega, by first | assumption | omega, by first | assumption | omega⟩, A, rfl⟩)
                    · have c638 : (1 : Int) ≠ (0 : Int) := o_ne h471
                      unfold J_X12_touch_174
                      try rw [A.1]
                      try rw [A.2.1]
                      try rw [A.2.2.1]
                      try rw [A.2.2.2.1]
                      exact ok2_some (show (RI ad h.1 δ0 δ ∧ (kp [(12, 36)] δ δ ∧ q_V δ = q_V δ ∧ kr ad [119] δ δ) ∧ (q_I δ 12 36 a0).toInt = (q_I δ 12 36 a0).toInt ∧ 1 ≤ (1 : Int) ∧ (1 : Int) ≤ 4 * (x3).toInt - 3) ∧ AG ad a0 δ δp ∧ (1 : Int32) = (1 : Int32) from ⟨⟨I, ⟨kp_w (by decide) kp_r, rfl, kr_w (by decide) (kr_r (ad := ad))⟩, by first | assumption | omega, by first | assumption | omega, by first | assumption | omega⟩, A, rfl⟩)
              · have c639 : x1.toInt ≠ (3 : Int) := o_ne h126
                have f640 := ti_b x2
                refine ok2_ite (fun h641 => ?_) (fun h641 => ?_)
                · have c642 : vx76.toInt < x2.toInt := o_lt h641
                  unfold J_X12_touch_153
                  try rw [A.1]
                  try rw [A.2.1]
                  try rw [A.2.2.1]
                  try rw [A.2.2.2.1]
                  unfold J_X12_touch_158
                  try rw [A.1]
                  try rw [A.2.1]
                  try rw [A.2.2.1]
                  try rw [A.2.2.2.1]
                  refine ok2_ite (fun h643 => ?_) (fun h643 => ?_)
                  · have c644 : (1 : Int) = (0 : Int) := o_eq h643
                    first | (have q646 := te_sub x5 x4 (by omega) (by omega); obtain ⟨f647, f648, f649⟩ := q646) | (obtain ⟨q646, f647, f648, f649⟩ := ti_sub x5 x4)
                    refine ok2_ite (fun h650 => ?_) (fun h650 => ?_)
                    · have c651 : (3 : Int) ≤ (x5 - x4).toInt := o_le h650
                      refine ok2_bind (v_X12_lowerBits L hN (a0 := a0) (x1 := x3) k_a0 I A) (fun r652 r652p hr653 => ?_)
                      obtain ⟨hq658, ha659, hb660⟩ := hr653
                      try rw [hb660]
                      try rw [ha659]
                      obtain ⟨i654, p655, p656, p657⟩ := hq658
                      try rw [i654]
                      have f661 := cb_12_12 I k_a0
                      have f662 := ti_b r652.1
                      have f663 := ti_b r652.1
                      refine ok2_bind (v_X12_roomMany L hN (a0 := a0) (x1 := x2) (x2 := x3) (x3 := x4) (x4 := x5) k_a0 (show 0 ≤ (x4).toInt by first | assumption | omega) (show (x4).toInt ≤ (x5).toInt by first | assumption | omega) (show (x5).toInt ≤ 14000 by first | assumption | omega) (show (x5).toInt ≤ (q_I δ 12 36 a0).toInt by first | assumption | omega) I A) (fun r664 r664p hr665 => ?_)
                      obtain ⟨hq667, ha668, hb669⟩ := hr665
                      try rw [hb669]
                      try rw [ha668]
                      have i666 := hq667
                      try rw [i666]
                      have f670 := ti_b r664.1
                      refine ok2_ite (fun h671 => ?_) (fun h671 => ?_)
                      · have c672 : r664.1.toInt ≤ (0 : Int) := o_le h671
                        refine ok2_mono (vj_X12_touch_267 L hN (a0 := a0) (x1 := x1) (x2 := x2) (x3 := x3) (x4 := x4) (x5 := x5) (x9v := (1 : Int32)) (x10v := r652.1) ih k_a0 (show 2 ≤ (x3).toInt by first | assumption | omega) (show (x3).toInt ≤ 16 by first | assumption | omega) (show 0 ≤ (x4).toInt by first | assumption | omega) (show (x4).toInt ≤ (x5).toInt by first | assumption | omega) (show (x5).toInt ≤ (x4).toInt + 2000 by first | assumption | omega) (show (x5).toInt ≤ (q_I δ 12 36 a0).toInt by first | assumption | omega) (show (q_I δ 12 36 a0).toInt ≤ 12000 by first | assumption | omega) (show 1 < (x3).toInt → (q_I δ 12 36 a0).toInt ≤ 10000 by first | assumption | omega) (show 2 < (x3).toInt → (q_I δ 12 36 a0).toInt ≤ 8000 by first | assumption | omega) (show 4 < (x3).toInt → (q_I δ 12 36 a0).toInt ≤ 6000 by first | assumption | omega) (show 8 < (x3).toInt → (q_I δ 12 36 a0).toInt ≤ 4000 by first | assumption | omega) (show (x3).toInt ≤ (k : Int) by first | assumption | omega) (show (x4).toInt < (x5).toInt by first | assumption | omega) (show (x4).toInt + 3 ≤ (x5).toInt by first | assumption | omega) (show 1 ≤ (1 : Int) by first | assumption | omega) (show (1 : Int) ≤ 2 by first | assumption | omega) I A) (fun r673 r673p hr674 => ?_)
                        obtain ⟨hq679, ha680, hb681⟩ := hr674
                        obtain ⟨i675, ⟨u682, u683, u684⟩, p676, p677, p678⟩ := hq679
                        have u685 := kp_t kp_r u682
                        have v686 : q_V r673.2 = q_V δ := (u683).trans rfl
                        have v687 := kr_t (kr_r (ad := ad)) u684
                        have f688 := cb_12_36 i675 k_a0
                        have f689 := ti_b r673.1
                        have f690 := ti_b r673.1
                        exact ⟨⟨by assumption, ⟨kp_w (by decide) u685, v686, kr_w (by decide) v687⟩, by first | assumption | omega, by first | assumption | omega, by first | assumption | omega⟩, ha680, hb681⟩
                      · have c691 : (0 : Int) < r664.1.toInt := o_nle h671
                        refine ok2_biv (fun vx692 e693 => ?_)
                        first | (have q694 := te_cadd (c := 1) (n := 1) rfl (1 : Int32) (by omega) (by omega); rw [← e693] at q694; obtain ⟨f695, f696, f697⟩ := q694) | (obtain ⟨q694, f695, f696, f697⟩ : ∃ q : Int, vx692.toInt = (1 : Int) + (1 : Int) + 4294967296 * q ∧ -2147483648 ≤ vx692.toInt ∧ vx692.toInt ≤ 2147483647 := by rw [e693]; exact ti_cadd (c := 1) (n := 1) rfl (1 : Int32))
                        have f700 := ti_b (x2 &&& (((1 : Int32) <<< (r652.1 &&& 31)) - (1 : Int32)))
                        refine ok2_biv (fun vx698 e699 => ?_)
                        have f701 : vx698.toInt = (x2 &&& (((1 : Int32) <<< (r652.1 &&& 31)) - (1 : Int32))).toInt := congrArg Int32.toInt e699
                        refine ok2_ite (fun h702 => ?_) (fun h702 => ?_)
                        · have c703 : x1.toInt = (3 : Int) := o_eq h702
                          refine ok2_bind (v_X12_roomEnd L hN (a0 := a0) (x1 := x2) (x2 := x3) (x3 := x4) (x4 := x5) (x5 := (0 : Int32)) k_a0 (show 0 ≤ (x4).toInt by first | assumption | omega) (show (x4).toInt ≤ (x5).toInt by first | assumption | omega) (show (x5).toInt ≤ 14000 by first | assumption | omega) (show (x5).toInt ≤ (q_I δ 12 36 a0).toInt by first | assumption | omega) I A) (fun r704 r704p hr705 => ?_)
                          obtain ⟨hq707, ha708, hb709⟩ := hr705
                          try rw [hb709]
                          try rw [ha708]
                          have i706 := hq707
                          try rw [i706]
                          have f710 := ti_b r704.1
                          refine ok2_ite (fun h711 => ?_) (fun h711 => ?_)
                          · have c712 : r704.1.toInt ≤ vx698.toInt := o_le h711
                            refine ok2_mono (vj_X12_touch_267 L hN (a0 := a0) (x1 := x1) (x2 := x2) (x3 := x3) (x4 := x4) (x5 := x5) (x9v := vx692) (x10v := r652.1) ih k_a0 (show 2 ≤ (x3).toInt by first | assumption | omega) (show (x3).toInt ≤ 16 by first | assumption | omega) (show 0 ≤ (x4).toInt by first | assumption | omega) (show (x4).toInt ≤ (x5).toInt by first | assumption | omega) (show (x5).toInt ≤ (x4).toInt + 2000 by first | assumption | omega) (show (x5).toInt ≤ (q_I δ 12 36 a0).toInt by first | assumption | omega) (show (q_I δ 12 36 a0).toInt ≤ 12000 by first | assumption | omega) (show 1 < (x3).toInt → (q_I δ 12 36 a0).toInt ≤ 10000 by first | assumption | omega) (show 2 < (x3).toInt → (q_I δ 12 36 a0).toInt ≤ 8000 by first | assumption | omega) (show 4 < (x3).toInt → (q_I δ 12 36 a0).toInt ≤ 6000 by first | assumption | omega) (show 8 < (x3).toInt → (q_I δ 12 36 a0).toInt ≤ 4000 by first | assumption | omega) (show (x3).toInt ≤ (k : Int) by first | assumption | omega) (show (x4).toInt < (x5).toInt by first | assumption | omega) (show (x4).toInt + 3 ≤ (x5).toInt by first | assumption | omega) (show 1 ≤ (vx692).toInt by first | assumption | omega) (show (vx692).toInt ≤ 2 by first | assumption | omega) I A) (fun r713 r713p hr714 => ?_)
                            obtain ⟨hq719, ha720, hb721⟩ := hr714
                            obtain ⟨i715, ⟨u722, u723, u724⟩, p716, p717, p718⟩ := hq719
                            have u725 := kp_t kp_r u722
                            have v726 : q_V r713.2 = q_V δ := (u723).trans rfl
                            have v727 := kr_t (kr_r (ad := ad)) u724
                            have f728 := cb_12_36 i715 k_a0
                            have f729 := ti_b r713.1
                            have f730 := ti_b r713.1
                            exact ⟨⟨by assumption, ⟨kp_w (by decide) u725, v726, kr_w (by decide) v727⟩, by first | assumption | omega, by first | assumption | omega, by first | assumption | omega⟩, ha720, hb721⟩
                          · have c731 : vx698.toInt < r704.1.toInt := o_nle h711
                            unfold J_X12_touch_252
                            try rw [A.1]
                            try rw [A.2.1]
                            try rw [A.2.2.1]
                            try rw [A.2.2.2.1]
                            refine ok2_bind (v_bX12_inRoom L hN (a0 := a0) (x1 := x1) (x2 := x2) (x3 := x3) (x4 := x4) (x5 := x5) ih k_a0 (show 2 ≤ (x3).toInt by first | assumption | omega) (show (x3).toInt ≤ 16 by first | assumption | omega) (show 0 ≤ (x4).toInt by first | assumption | omega) (show (x4).toInt ≤ (x5).toInt by first | assumption | omega) (show (x5).toInt ≤ (x4).toInt + 2000 by first | assumption | omega) (show (x5).toInt ≤ (q_I δ 12 36 a0).toInt by first | assumption | omega) (show (q_I δ 12 36 a0).toInt ≤ 12000 by first | assumption | omega) (show 1 < (x3).toInt → (q_I δ 12 36 a0).toInt ≤ 10000 by first | assumption | omega) (show 2 < (x3).toInt → (q_I δ 12 36 a0).toInt ≤ 8000 by first | assumption | omega) (show 4 < (x3).toInt → (q_I δ 12 36 a0).toInt ≤ 6000 by first | assumption | omega) (show 8 < (x3).toInt → (q_I δ 12 36 a0).toInt ≤ 4000 by first | assumption | omega) (show (x3).toInt ≤ (k : Int) by first | assumption | omega) I A) (fun r732 r732p hr733 => ?_)
                            obtain ⟨hq739, ha740, hb741⟩ := hr733
                            try rw [hb741]
                            obtain ⟨i734, ⟨u742, u743, u744⟩, p735, p736, p737, p738⟩ := hq739
                            have u745 := kp_t kp_r u742
                            have v746 : q_V r732.2 = q_V δ := (u743).trans rfl
                            have v747 := kr_t (kr_r (ad := ad)) u744
                            try rw [ha740.1]
                            try rw [ha740.2.1]
                            try rw [ha740.2.2.1]
                            try rw [ha740.2.2.2.1]
                            have f748 := cb_12_36 i734 k_a0
                            have f749 := ti_b r732.1
                            have f750 := ti_b r732.1
                            first | (have q752 := te_add vx692 r732.1 (by omega) (by omega); obtain ⟨f753, f754, f755⟩ := q752) | (obtain ⟨q752, f753, f754, f755⟩ := ti_add vx692 r732.1)
                            exact ok2_some (show (RI ad h.1 δ0 r732.2 ∧ (kp [(12, 36)] δ r732.2 ∧ q_V r732.2 = q_V δ ∧ kr ad [119] δ r732.2) ∧ (q_I r732.2 12 36 a0).toInt = (q_I δ 12 36 a0).toInt ∧ 1 ≤ ((vx692 + r732.1)).toInt ∧ ((vx692 + r732.1)).toInt ≤ 4 * (x3).toInt - 3) ∧ AG ad a0 r732.2 r732p.2 ∧ (vx692 + r732.1) = (vx692 + r732.1) from ⟨⟨i734, ⟨kp_w (by decide) u745, v746, kr_w (by decide) v747⟩, by first | assumption | omega, by first | assumption | omega, by first | assumption | omega⟩, ha740, rfl⟩)
                        · have c756 : x1.toInt ≠ (3 : Int) := o_ne h702
                          refine ok2_bind (v_X12_roomEnd L hN (a0 := a0) (x1 := x2) (x2 := x3) (x3 := x4) (x4 := x5) (x5 := (1 : Int32)) k_a0 (show 0 ≤ (x4).toInt by first | assumption | omega) (show (x4).toInt ≤ (x5).toInt by first | assumption | omega) (show (x5).toInt ≤ 14000 by first | assumption | omega) (show (x5).toInt ≤ (q_I δ 12 36 a0).toInt by first | assumption | omega) I A) (fun r757 r757p hr758 => ?_)
                          obtain ⟨hq760, ha761, hb762⟩ := hr758
                          try rw [hb762]
                          try rw [ha761]
                          have i759 := hq760
                          try rw [i759]
                          have f763 := ti_b r757.1
                          refine ok2_ite (fun h764 => ?_) (fun h764 => ?_)
                          · have c765 : vx698.toInt ≤ r757.1.toInt := o_le h764
                            refine ok2_mono (vj_X12_touch_267 L hN (a0 := a0) (x1 := x1) (x2 := x2) (x3 := x3) (x4 := x4) (x5 := x5) (x9v := vx692) (x10v := r652.1) ih k_a0 (show 2 ≤ (x3).toInt by first | assumption | omega) (show (x3).toInt ≤ 16 by first | assumption | omega) (show 0 ≤ (x4).toInt by first | assumption | omega) (show (x4).toInt ≤ (x5).toInt by first | assumption | omega) (show (x5).toInt ≤ (x4).toInt + 2000 by first | assumption | omega) (show (x5).toInt ≤ (q_I δ 12 36 a0).toInt by first | assumption | omega) (show (q_I δ 12 36 a0).toInt ≤ 12000 by first | assumption | omega) (show 1 < (x3).toInt → (q_I δ 12 36 a0).toInt ≤ 10000 by first | assumption | omega) (show 2 < (x3).toInt → (q_I δ 12 36 a0).toInt ≤ 8000 by first | assumption | omega) (show 4 < (x3).toInt → (q_I δ 12 36 a0).toInt ≤ 6000 by first | assumption | omega) (show 8 < (x3).toInt → (q_I δ 12 36 a0).toInt ≤ 4000 by first | assumption | omega) (show (x3).toInt ≤ (k : Int) by first | assumption | omega) (show (x4).toInt < (x5).toInt by first | assumption | omega) (show (x4).toInt + 3 ≤ (x5).toInt by first | assumption | omega) (show 1 ≤ (vx692).toInt by first | assumption | omega) (show (vx692).toInt ≤ 2 by first | assumption | omega) I A) (fun r766 r766p hr767 => ?_)
                            obtain ⟨hq772, ha773, hb774⟩ := hr767
                            obtain ⟨i768, ⟨u775, u776, u777⟩, p769, p770, p771⟩ := hq772
                            have u778 := kp_t kp_r u775
                            have v779 : q_V r766.2 = q_V δ := (u776).trans rfl
                            have v780 := kr_t (kr_r (ad := ad)) u777
                            have f781 := cb_12_36 i768 k_a0
                            have f782 := ti_b r766.1
                            have f783 := ti_b r766.1
                            exact ⟨⟨by assumption, ⟨kp_w (by decide) u778, v779, kr_w (by decide) v780⟩, by first | assumption | omega, by first | assumption | omega, by first | assumption | omega⟩, ha773, hb774⟩
                          · have c784 : r757.1.toInt < vx698.toInt := o_nle h764
                            unfold J_X12_touch_252
                            try rw [A.1]
                            try rw [A.2.1]
                            try rw [A.2.2.1]
                            try rw [A.2.2.2.1]
                            refine ok2_bind (v_bX12_inRoom L hN (a0 := a0) (x1 := x1) (x2 := x2) (x3 := x3) (x4 := x4) (x5 := x5) ih k_a0 (show 2 ≤ (x3).toInt by first | assumption | omega) (show (x3).toInt ≤ 16 by first | assumption | omega) (show 0 ≤ (x4).toInt by first | assumption | omega) (show (x4).toInt ≤ (x5).toInt by first | assumption | omega) (show (x5).toInt ≤ (x4).toInt + 2000 by first | assumption | omega) (show (x5).toInt ≤ (q_I δ 12 36 a0).toInt by first | assumption | omega) (show (q_I δ 12 36 a0).toInt ≤ 12000 by first | assumption | omega) (show 1 < (x3).toInt → (q_I δ 12 36 a0).toInt ≤ 10000 by first | assumption | omega) (show 2 < (x3).toInt → (q_I δ 12 36 a0).toInt ≤ 8000 by first | assumption | omega) (show 4 < (x3).toInt → (q_I δ 12 36 a0).toInt ≤ 6000 by first | assumption | omega) (show 8 < (x3).toInt → (q_I δ 12 36 a0).toInt ≤ 4000 by first | assumption | omega) (show (x3).toInt ≤ (k : Int) by first | assumption | omega) I A) (fun r785 r785p hr786 => ?_)
                            obtain ⟨hq792, ha793, hb794⟩ := hr786
                            try rw [hb794]
                            obtain ⟨i787, ⟨u795, u796, u797⟩, p788, p789, p790, p791⟩ := hq792
                            have u798 := kp_t kp_r u795
                            have v799 : q_V r785.2 = q_V δ := (u796).trans rfl
                            have v800 := kr_t (kr_r (ad := ad)) u797
                            try rw [ha793.1]
                            try rw [ha793.2.1]
                            try rw [ha793.2.2.1]
                            try rw [ha793.2.2.2.1]
                            have f801 := cb_12_36 i787 k_a0
                            have f802 := ti_b r785.1
                            have f803 := ti_b r785.1
                            first | (have q805 := te_add vx692 r785.1 (by omega) (by omega); obtain ⟨f806, f807, f808⟩ := q805) | (obtain ⟨q805, f806, f807, f808⟩ := ti_add vx692 r785.1)
                            exact ok2_some (show (RI ad h.1 δ0 r785.2 ∧ (kp [(12, 36)] δ r785.2 ∧ q_V r785.2 = q_V δ ∧ kr ad [119] δ r785.2) ∧ (q_I r785.2 12 36 a0).toInt = (q_I δ 12 36 a0).toInt ∧ 1 ≤ ((vx692 + r785.1)).toInt ∧ ((vx692 + r785.1)).toInt ≤ 4 * (x3).toInt - 3) ∧ AG ad a0 r785.2 r785p.2 ∧ (vx692 + r785.1) = (vx692 + r785.1) from ⟨⟨i787, ⟨kp_w (by decide) u798, v799, kr_w (by decide) v800⟩, by first | assumption | omega, by first | assumption | omega, by first | assumption | omega⟩, ha793, rfl⟩)
                    · have c809 : (x5 - x4).toInt < (3 : Int) := o_nle h650
                      unfold J_X12_touch_174
                      try rw [A.1]
                      try rw [A.2.1]
                      try rw [A.2.2.1]
                      try rw [A.2.2.2.1]
                      exact ok2_some (show (RI ad h.1 δ0 δ ∧ (kp [(12, 36)] δ δ ∧ q_V δ = q_V δ ∧ kr ad [119] δ δ) ∧ (q_I δ 12 36 a0).toInt = (q_I δ 12 36 a0).toInt ∧ 1 ≤ (1 : Int) ∧ (1 : Int) ≤ 4 * (x3).toInt - 3) ∧ AG ad a0 δ δp ∧ (1 : Int32) = (1 : Int32) from ⟨⟨I, ⟨kp_w (by decide) kp_r, rfl, kr_w (by decide) (kr_r (ad := ad))⟩, by first | assumption | omega, by first | assumption | omega, by first | assumption | omega⟩, A, rfl⟩)
                  · have c810 : (1 : Int) ≠ (0 : Int) := o_ne h643
                    unfold J_X12_touch_174
                    try rw [A.1]
                    try rw [A.2.1]
                    try rw [A.2.2.1]
                    try rw [A.2.2.2.1]
                    exact ok2_some (show (RI ad h.1 δ0 δ ∧ (kp [(12, 36)] δ δ ∧ q_V δ = q_V δ ∧ kr ad [119] δ δ) ∧ (q_I δ 12 36 a0).toInt = (q_I δ 12 36 a0).toInt ∧ 1 ≤ (1 : Int) ∧ (1 : Int) ≤ 4 * (x3).toInt - 3) ∧ AG ad a0 δ δp ∧ (1 : Int32) = (1 : Int32) from ⟨⟨I, ⟨kp_w (by decide) kp_r, rfl, kr_w (by decide) (kr_r (ad := ad))⟩, by first | assumption | omega, by first | assumption | omega, by first | assumption | omega⟩, A, rfl⟩)
                · have c811 : x2.toInt ≤ vx76.toInt := o_nlt h641
                  refine ok2_ite (fun h812 => ?_) (fun h812 => ?_)
                  · have c813 : vx63.toInt < x2.toInt := o_lt h812
                    unfold J_X12_touch_158
                    try rw [A.1]
                    try rw [A.2.1]
                    try rw [A.2.2.1]
                    try rw [A.2.2.2.1]
                    refine ok2_ite (fun h814 => ?_) (fun h814 => ?_)
                    · have c815 : (0 : Int) = (0 : Int) := o_eq h814
                      first | (have q817 := te_sub x5 x4 (by omega) (by omega); obtain ⟨f818, f819, f820⟩ := q817) | (obtain ⟨q817, f818, f819, f820⟩ := ti_sub x5 x4)
                      refine ok2_ite (fun h821 => ?_) (fun h821 => ?_)
                      · have c822 : (3 : Int) ≤ (x5 - x4).toInt := o_le h821
                        refine ok2_bind (v_X12_lowerBits L hN (a0 := a0) (x1 := x3) k_a0 I A) (fun r823 r823p hr824 => ?_)
                        obtain ⟨hq829, ha830, hb831⟩ := hr824
                        try rw [hb831]
                        try rw [ha830]
                        obtain ⟨i825, p826, p827, p828⟩ := hq829
                        try rw [i825]
                        have f832 := cb_12_12 I k_a0
                        have f833 := ti_b r823.1
                        have f834 := ti_b r823.1
                        refine ok2_bind (v_X12_roomMany L hN (a0 := a0) (x1 := x2) (x2 := x3) (x3 := x4) (x4 := x5) k_a0 (show 0 ≤ (x4).toInt by first | assumption | omega) (show (x4).toInt ≤ (x5).toInt by first | assumption | omega) (show (x5).toInt ≤ 14000 by first | assumption | omega) (show (x5).toInt ≤ (q_I δ 12 36 a0).toInt by first | assumption | omega) I A) (fun r835 r835p hr836 => ?_)
                        obtain ⟨hq838, ha839, hb840⟩ := hr836
                        try rw [hb840]
                        try rw [ha839]
                        have i837 := hq838
                        try rw [i837]
                        have f841 := ti_b r835.1
                        refine ok2_ite (fun h842 => ?_) (fun h842 => ?_)
                        · have c843 : r835.1.toInt ≤ (0 : Int) := o_le h842
                          refine ok2_mono (vj_X12_touch_267 L hN (a0 := a0) (x1 := x1) (x2 := x2) (x3 := x3) (x4 := x4) (x5 := x5) (x9v := (1 : Int32)) (x10v := r823.1) ih k_a0 (show 2 ≤ (x3).toInt by first | assumption | omega) (show (x3).toInt ≤ 16 by first | assumption | omega) (show 0 ≤ (x4).toInt by first | assumption | omega) (show (x4).toInt ≤ (x5).toInt by first | assumption | omega) (show (x5).toInt ≤ (x4).toInt + 2000 by first | assumption | omega) (show (x5).toInt ≤ (q_I δ 12 36 a0).toInt by first | assumption | omega) (show (q_I δ 12 36 a0).toInt ≤ 12000 by first | assumption | omega) (show 1 < (x3).toInt → (q_I δ 12 36 a0).toInt ≤ 10000 by first | assumption | omega) (show 2 < (x3).toInt → (q_I δ 12 36 a0).toInt ≤ 8000 by first | assumption | omega) (show 4 < (x3).toInt → (q_I δ 12 36 a0).toInt ≤ 6000 by first | assumption | omega) (show 8 < (x3).toInt → (q_I δ 12 36 a0).toInt ≤ 4000 by first | assumption | omega) (show (x3).toInt ≤ (k : Int) by first | assumption | omega) (show (x4).toInt < (x5).toInt by first | assumption | omega) (show (x4).toInt + 3 ≤ (x5).toInt by first | assumption | omega) (show 1 ≤ (1 : Int) by first | assumption | omega) (show (1 : Int) ≤ 2 by first | assumption | omega) I A) (fun r844 r844p hr845 => ?_)
                          obtain ⟨hq850, ha851, hb852⟩ := hr845
                          obtain ⟨i846, ⟨u853, u854, u855⟩, p847, p848, p849⟩ := hq850
                          have u856 := kp_t kp_r u853
                          have v857 : q_V r844.2 = q_V δ := (u854).trans rfl
                          have v858 := kr_t (kr_r (ad := ad)) u855
                          have f859 := cb_12_36 i846 k_a0
                          have f860 := ti_b r844.1
                          have f861 := ti_b r844.1
                          exact ⟨⟨by assumption, ⟨kp_w (by decide) u856, v857, kr_w (by decide) v858⟩, by first | assumption | omega, by first | assumption | omega, by first | assumption | omega⟩, ha851, hb852⟩
                        · have c862 : (0 : Int) < r835.1.toInt := o_nle h842
                          refine ok2_biv (fun vx863 e864 => ?_)
                          first | (have q865 := te_cadd (c := 1) (n := 1) rfl (1 : Int32) (by omega) (by omega); rw [← e864] at q865; obtain ⟨f866, f867, f868⟩ := q865) | (obtain ⟨q865, f866, f867, f868⟩ : ∃ q : Int, vx863.toInt = (1 : Int) + (1 : Int) + 4294967296 * q ∧ -2147483648 ≤ vx863.toInt ∧ vx863.toInt ≤ 2147483647 := by rw [e864]; exact ti_cadd (c := 1) (n := 1) rfl (1 : Int32))
                          have f871 := ti_b (x2 &&& (((1 : Int32) <<< (r823.1 &&& 31)) - (1 : Int32)))
                          refine ok2_biv (fun vx869 e870 => ?_)
                          have f872 : vx869.toInt = (x2 &&& (((1 : Int32) <<< (r823.1 &&& 31)) - (1 : Int32))).toInt := congrArg Int32.toInt e870
                          refine ok2_ite (fun h873 => ?_) (fun h873 => ?_)
                          · have c874 : x1.toInt = (3 : Int) := o_eq h873
                            refine ok2_bind (v_X12_roomEnd L hN (a0 := a0) (x1 := x2) (x2 := x3) (x3 := x4) (x4 := x5) (x5 := (0 : Int32)) k_a0 (show 0 ≤ (x4).toInt by first | assumption | omega) (show (x4).toInt ≤ (x5).toInt by first | assumption | omega) (show (x5).toInt ≤ 14000 by first | assumption | omega) (show (x5).toInt ≤ (q_I δ 12 36 a0).toInt by first | assumption | omega) I A) (fun r875 r875p hr876 => ?_)
                            obtain ⟨hq878, ha879, hb880⟩ := hr876
                            try rw [hb880]
                            try rw [ha879]
                            have i877 := hq878
                            try rw [i877]
                            have f881 := ti_b r875.1
                            refine ok2_ite (fun h882 => ?_) (fun h882 => ?_)
                            · have c883 : r875.1.toInt ≤ vx869.toInt := o_le h882
                              refine ok2_mono (vj_X12_touch_267 L hN (a0 := a0) (x1 := x1) (x2 := x2) (x3 := x3) (x4 := x4) (x5 := x5) (x9v := vx863) (x10v := r823.1) ih k_a0 (show 2 ≤ (x3).toInt by first | assumption | omega) (show (x3).toInt ≤ 16 by first | assumption | omega) (show 0 ≤ (x4).toInt by first | assumption | omega) (show (x4).toInt ≤ (x5).toInt by first | assumption | omega) (show (x5).toInt ≤ (x4).toInt + 2000 by first | assumption | omega) (show (x5).toInt ≤ (q_I δ 12 36 a0).toInt by first | assumption | omega) (show (q_I δ 12 36 a0).toInt ≤ 12000 by first | assumption | omega) (show 1 < (x3).toInt → (q_I δ 12 36 a0).toInt ≤ 10000 by first | assumption | omega) (show 2 < (x3).toInt → (q_I δ 12 36 a0).toInt ≤ 8000 by first | assumption | omega) (show 4 < (x3).toInt → (q_I δ 12 36 a0).toInt ≤ 6000 by first | assumption | omega) (show 8 < (x3).toInt → (q_I δ 12 36 a0).toInt ≤ 4000 by first | assumption | omega) (show (x3).toInt ≤ (k : Int) by first | assumption | omega) (show (x4).toInt < (x5).toInt by first | assumption | omega) (show (x4).toInt + 3 ≤ (x5).toInt by first | assumption | omega) (show 1 ≤ (vx863).toInt by first | assumption | omega) (show (vx863).toInt ≤ 2 by first | assumption | omega) I A) (fun r884 r884p hr885 => ?_)
                              obtain ⟨hq890, ha891, hb892⟩ := hr885
                              obtain ⟨i886, ⟨u893, u894, u895⟩, p887, p888, p889⟩ := hq890
                              have u896 := kp_t kp_r u893
                              have v897 : q_V r884.2 = q_V δ := (u894).trans rfl
                              have v898 := kr_t (kr_r (ad := ad)) u895
                              have f899 := cb_12_36 i886 k_a0
                              have f900 := ti_b r884.1
                              have f901 := ti_b r884.1
                              exact ⟨⟨by assumption, ⟨kp_w (by decide) u896, v897, kr_w (by decide) v898⟩, by first | assumption | omega, by first | assumption | omega, by first | assumption | omega⟩, ha891, hb892⟩
                            · have c902 : vx869.toInt < r875.1.toInt := o_nle h882
                              unfold J_X12_touch_252
                              try rw [A.1]
                              try rw [A.2.1]
                              try rw [A.2.2.1]
                              try rw [A.2.2.2.1]
                              refine ok2_bind (v_bX12_inRoom L hN (a0 := a0) (x1 := x1) (x2 := x2) (x3 := x3) (x4 := x4) (x5 := x5) ih k_a0 (show 2 ≤ (x3).toInt by first | assumption | omega) (show (x3).toInt ≤ 16 by first | assumption | omega) (show 0 ≤ (x4).toInt by first | assumption | omega) (show (x4).toInt ≤ (x5).toInt by first | assumption | omega) (show (x5).toInt ≤ (x4).toInt + 2000 by first | assumption | omega) (show (x5).toInt ≤ (q_I δ 12 36 a0).toInt by first | assumption | omega) (show (q_I δ 12 36 a0).toInt ≤ 12000 by first | assumption | omega) (show 1 < (x3).toInt → (q_I δ 12 36 a0).toInt ≤ 10000 by first | assumption | omega) (show 2 < (x3).toInt → (q_I δ 12 36 a0).toInt ≤ 8000 by first | assumption | omega) (show 4 < (x3).toInt → (q_I δ 12 36 a0).toInt ≤ 6000 by first | assumption | omega) (show 8 < (x3).toInt → (q_I δ 12 36 a0).toInt ≤ 4000 by first | assumption | omega) (show (x3).toInt ≤ (k : Int) by first | assumption | omega) I A) (fun r903 r903p hr904 => ?_)
                              obtain ⟨hq910, ha911, hb912⟩ := hr904
                              try rw [hb912]
                              obtain ⟨i905, ⟨u913, u914, u915⟩, p906, p907, p908, p909⟩ := hq910
                              have u916 := kp_t kp_r u913
                              have v917 : q_V r903.2 = q_V δ := (u914).trans rfl
                              have v918 := kr_t (kr_r (ad := ad)) u915
                              try rw [ha911.1]
                              try rw [ha911.2.1]
                              try rw [ha911.2.2.1]
                              try rw [ha911.2.2.2.1]
                              have f919 := cb_12_36 i905 k_a0
                              have f920 := ti_b r903.1
                              have f921 := ti_b r903.1
                              first | (have q923 := te_add vx863 r903.1 (by omega) (by omega); obtain ⟨f924, f925, f926⟩ := q923) | (obtain ⟨q923, f924, f925, f926⟩ := ti_add vx863 r903.1)
                              exact ok2_some (show (RI ad h.1 δ0 r903.2 ∧ (kp [(12, 36)] δ r903.2 ∧ q_V r903.2 = q_V δ ∧ kr ad [119] δ r903.2) ∧ (q_I r903.2 12 36 a0).toInt = (q_I δ 12 36 a0).toInt ∧ 1 ≤ ((vx863 + r903.1)).toInt ∧ ((vx863 + r903.1)).toInt ≤ 4 * (x3).toInt - 3) ∧ AG ad a0 r903.2 r903p.2 ∧ (vx863 + r903.1) = (vx863 + r903.1) from ⟨⟨i905, ⟨kp_w (by decide) u916, v917, kr_w (by decide) v918⟩, by first | assumption | omega, by first | assumption | omega, by first | assumption | omega⟩, ha911, rfl⟩)
                          · have c927 : x1.toInt ≠ (3 : Int) := o_ne h873
                            refine ok2_bind (v_X12_roomEnd L hN (a0 := a0) (x1 := x2) (x2 := x3) (x3 := x4) (x4 := x5) (x5 := (1 : Int32)) k_a0 (show 0 ≤ (x4).toInt by first | assumption | omega) (show (x4).toInt ≤ (x5).toInt by first | assumption | omega) (show (x5).toInt ≤ 14000 by first | assumption | omega) (show (x5).toInt ≤ (q_I δ 12 36 a0).toInt by first | assumption | omega) I A) (fun r928 r928p hr929 => ?_)
                            obtain ⟨hq931, ha932, hb933⟩ := hr929
                            try rw [hb933]
                            try rw [ha932]
                            have i930 := hq931
                            try rw [i930]
                            have f934 := ti_b r928.1
                            refine ok2_ite (fun h935 => ?_) (fun h935 => ?_)
                            · have c936 : vx869.toInt ≤ r928.1.toInt := o_le h935
                              refine ok2_mono (vj_X12_touch_267 L hN (a0 := a0) (x1 := x1) (x2 := x2) (x3 := x3) (x4 := x4) (x5 := x5) (x9v := vx863) (x10v := r823.1) ih k_a0 (show 2 ≤ (x3).toInt by first | assumption | omega) (show (x3).toInt ≤ 16 by first | assumption | omega) (show 0 ≤ (x4).toInt by first | assumption | omega) (show (x4).toInt ≤ (x5).toInt by first | assumption | omega) (show (x5).toInt ≤ (x4).toInt + 2000 by first | assumption | omega) (show (x5).toInt ≤ (q_I δ 12 36 a0).toInt by first | assumption | omega) (show (q_I δ 12 36 a0).toInt ≤ 12000 by first | assumption | omega) (show 1 < (x3).toInt → (q_I δ 12 36 a0).toInt ≤ 10000 by first | assumption | omega) (show 2 < (x3).toInt → (q_I δ 12 36 a0).toInt ≤ 8000 by first | assumption | omega) (show 4 < (x3).toInt → (q_I δ 12 36 a0).toInt ≤ 6000 by first | assumption | omega) (show 8 < (x3).toInt → (q_I δ 12 36 a0).toInt ≤ 4000 by first | assumption | omega) (show (x3).toInt ≤ (k : Int) by first | assumption | omega) (show (x4).toInt < (x5).toInt by first | assumption | omega) (show (x4).toInt + 3 ≤ (x5).toInt by first | assumption | omega) (show 1 ≤ (vx863).toInt by first | assumption | omega) (show (vx863).toInt ≤ 2 by first | assumption | omega) I A) (fun r937 r937p hr938 => ?_)
                              obtain ⟨hq943, ha944, hb945⟩ := hr938
                              obtain ⟨i939, ⟨u946, u947, u948⟩, p940, p941, p942⟩ := hq943
                              have u949 := kp_t kp_r u946
                              have v950 : q_V r937.2 = q_V δ := (u947).trans rfl
                              have v951 := kr_t (kr_r (ad := ad)) u948
                              have f952 := cb_12_36 i939 k_a0
                              have f953 := ti_b r937.1
                              have f954 := ti_b r937.1
                              exact ⟨⟨by assumption, ⟨kp_w (by decide) u949, v950, kr_w (by decide) v951⟩, by first | assumption | omega, by first | assumption | omega, by first | assumption | omega⟩, ha944, hb945⟩
                            · have c955 : r928.1.toInt < vx869.toInt := o_nle h935
                              unfold J_X12_touch_252
                              try rw [A.1]
                              try rw [A.2.1]
                              try rw [A.2.2.1]
                              try rw [A.2.2.2.1]
                              refine ok2_bind (v_bX12_inRoom L hN (a0 := a0) (x1 := x1) (x2 := x2) (x3 := x3) (x4 := x4) (x5 := x5) ih k_a0 (show 2 ≤ (x3).toInt by first | assumption | omega) (show (x3).toInt ≤ 16 by first | assumption | omega) (show 0 ≤ (x4).toInt by first | assumption | omega) (show (x4).toInt ≤ (x5).toInt by first | assumption | omega) (show (x5).toInt ≤ (x4).toInt + 2000 by first | assumption | omega) (show (x5).toInt ≤ (q_I δ 12 36 a0).toInt by first | assumption | omega) (show (q_I δ 12 36 a0).toInt ≤ 12000 by first | assumption | omega) (show 1 < (x3).toInt → (q_I δ 12 36 a0).toInt ≤ 10000 by first | assumption | omega) (show 2 < (x3).toInt → (q_I δ 12 36 a0).toInt ≤ 8000 by first | assumption | omega) (show 4 < (x3).toInt → (q_I δ 12 36 a0).toInt ≤ 6000 by first | assumption | omega) (show 8 < (x3).toInt → (q_I δ 12 36 a0).toInt ≤ 4000 by first | assumption | omega) (show (x3).toInt ≤ (k : Int) by first | assumption | omega) I A) (fun r956 r956p hr957 => ?_)
                              obtain ⟨hq963, ha964, hb965⟩ := hr957
                              try rw [hb965]
                              obtain ⟨i958, ⟨u966, u967, u968⟩, p959, p960, p961, p962⟩ := hq963
                              have u969 := kp_t kp_r u966
                              have v970 : q_V r956.2 = q_V δ := (u967).trans rfl
                              have v971 := kr_t (kr_r (ad := ad)) u968
                              try rw [ha964.1]
                              try rw [ha964.2.1]
                              try rw [ha964.2.2.1]
                              try rw [ha964.2.2.2.1]
                              have f972 := cb_12_36 i958 k_a0
                              have f973 := ti_b r956.1
                              have f974 := ti_b r956.1
                              first | (have q976 := te_add vx863 r956.1 (by omega) (by omega); obtain ⟨f977, f978, f979⟩ := q976) | (obtain ⟨q976, f977, f978, f979⟩ := ti_add vx863 r956.1)
                              exact ok2_some (show (RI ad h.1 δ0 r956.2 ∧ (kp [(12, 36)] δ r956.2 ∧ q_V r956.2 = q_V δ ∧ kr ad [119] δ r956.2) ∧ (q_I r956.2 12 36 a0).toInt = (q_I δ 12 36 a0).toInt ∧ 1 ≤ ((vx863 + r956.1)).toInt ∧ ((vx863 + r956.1)).toInt ≤ 4 * (x3).toInt - 3) ∧ AG ad a0 r956.2 r956p.2 ∧ (vx863 + r956.1) = (vx863 + r956.1) from ⟨⟨i958, ⟨kp_w (by decide) u969, v970, kr_w (by decide) v971⟩, by first | assumption | omega, by first | assumption | omega, by first | assumption | omega⟩, ha964, rfl⟩)
                      · have c980 : (x5 - x4).toInt < (3 : Int) := o_nle h821
                        unfold J_X12_touch_174
                        try rw [A.1]
                        try rw [A.2.1]
                        try rw [A.2.2.1]
                        try rw [A.2.2.2.1]
                        exact ok2_some (show (RI ad h.1 δ0 δ ∧ (kp [(12, 36)] δ δ ∧ q_V δ = q_V δ ∧ kr ad [119] δ δ) ∧ (q_I δ 12 36 a0).toInt = (q_I δ 12 36 a0).toInt ∧ 1 ≤ (1 : Int) ∧ (1 : Int) ≤ 4 * (x3).toInt - 3) ∧ AG ad a0 δ δp ∧ (1 : Int32) = (1 : Int32) from ⟨⟨I, ⟨kp_w (by decide) kp_r, rfl, kr_w (by decide) (kr_r (ad := ad))⟩, by first | assumption | omega, by first | assumption | omega, by first | assumption | omega⟩, A, rfl⟩)
                    · have c981 : (0 : Int) ≠ (0 : Int) := o_ne h814
                      unfold J_X12_touch_174
                      try rw [A.1]
                      try rw [A.2.1]
                      try rw [A.2.2.1]
                      try rw [A.2.2.2.1]
                      exact ok2_some (show (RI ad h.1 δ0 δ ∧ (kp [(12, 36)] δ δ ∧ q_V δ = q_V δ ∧ kr ad [119] δ δ) ∧ (q_I δ 12 36 a0).toInt = (q_I δ 12 36 a0).toInt ∧ 1 ≤ (1 : Int) ∧ (1 : Int) ≤ 4 * (x3).toInt - 3) ∧ AG ad a0 δ δp ∧ (1 : Int32) = (1 : Int32) from ⟨⟨I, ⟨kp_w (by decide) kp_r, rfl, kr_w (by decide) (kr_r (ad := ad))⟩, by first | assumption | omega, by first | assumption | omega, by first | assumption | omega⟩, A, rfl⟩)
                  · have c982 : x2.toInt ≤ vx63.toInt := o_nlt h812
                    unfold J_X12_touch_153
                    try rw [A.1]
                    try rw [A.2.1]
                    try rw [A.2.2.1]
                    try rw [A.2.2.2.1]
                    unfold J_X12_touch_158
                    try rw [A.1]
                    try rw [A.2.1]
                    try rw [A.2.2.1]
                    try rw [A.2.2.2.1]
                    refine ok2_ite (fun h983 => ?_) (fun h983 => ?_)
                    · have c984 : (1 : Int) = (0 : Int) := o_eq h983
                      first | (have q986 := te_sub x5 x4 (by omega) (by omega); obtain ⟨f987, f988, f989⟩ := q986) | (obtain ⟨q986, f987, f988, f989⟩ := ti_sub x5 x4)
                      refine ok2_ite (fun h990 => ?_) (fun h990 => ?_)
                      · have c991 : (3 : Int) ≤ (x5 - x4).toInt := o_le h990
                        refine ok2_bind (v_X12_lowerBits L hN (a0 := a0) (x1 := x3) k_a0 I A) (fun r992 r992p hr993 => ?_)
                        obtain ⟨hq998, ha999, hb1000⟩ := hr993
                        try rw [hb1000]
                        try rw [ha999]
                        obtain ⟨i994, p995, p996, p997⟩ := hq998
                        try rw [i994]
                        have f1001 := cb_12_12 I k_a0
                        have f1002 := ti_b r992.1
                        have f1003 := ti_b r992.1
                        refine ok2_bind (v_X12_roomMany L hN (a0 := a0) (x1 := x2) (x2 := x3) (x3 := x4) (x4 := x5) k_a0 (show 0 ≤ (x4).toInt by first | assumption | omega) (show (x4).toInt ≤ (x5).toInt by first | assumption | omega) (show (x5).toInt ≤ 14000 by first | assumption | omega) (show (x5).toInt ≤ (q_I δ 12 36 a0).toInt by first | assumption | omega) I A) (fun r1004 r1004p hr1005 => ?_)
                        obtain ⟨hq1007, ha1008, hb1009⟩ := hr1005
                        try rw [hb1009]
                        try rw [ha1008]
                        have i1006 := hq1007
                        try rw [i1006]
                        have f1010 := ti_b r1004.1
                        refine ok2_ite (fun h1011 => ?_) (fun h1011 => ?_)
                        · have c1012 : r1004.1.toInt ≤ (0 : Int) := o_le h1011
                          refine ok2_mono (vj_X12_touch_267 L hN (a0 := a0) (x1 := x1) (x2 := x2) (x3 := x3) (x4 := x4) (x5 := x5) (x9v := (1 : Int32)) (x10v := r992.1) ih k_a0 (show 2 ≤ (x3).toInt by first | assumption | omega) (show (x3).toInt ≤ 16 by first | assumption | omega) (show 0 ≤ (x4).toInt by first | assumption | omega) (show (x4).toInt ≤ (x5).toInt by first | assumption | omega) (show (x5).toInt ≤ (x4).toInt + 2000 by first | assumption | omega) (show (x5).toInt ≤ (q_I δ 12 36 a0).toInt by first | assumption | omega) (show (q_I δ 12 36 a0).toInt ≤ 12000 by first | assumption | omega) (show 1 < (x3).toInt → (q_I δ 12 36 a0).toInt ≤ 10000 by first | assumption | omega) (show 2 < (x3).toInt → (q_I δ 12 36 a0).toInt ≤ 8000 by first | assumption | omega) (show 4 < (x3).toInt → (q_I δ 12 36 a0).toInt ≤ 6000 by first | assumption | omega) (show 8 < (x3).toInt → (q_I δ 12 36 a0).toInt ≤ 4000 by first | assumption | omega) (show (x3).toInt ≤ (k : Int) by first | assumption | omega) (show (x4).toInt < (x5).toInt by first | assumption | omega) (show (x4).toInt + 3 ≤ (x5).toInt by first | assumption | omega) (show 1 ≤ (1 : Int) by first | assumption | omega) (show (1 : Int) ≤ 2 by first | assumption | omega) I A) (fun r1013 r1013p hr1014 => ?_)
                          obtain ⟨hq1019, ha1020, hb1021⟩ := hr1014
                          obtain ⟨i1015, ⟨u1022, u1023, u1024⟩, p1016, p1017, p1018⟩ := hq1019
                          have u1025 := kp_t kp_r u1022
                          have v1026 : q_V r1013.2 = q_V δ := (u1023).trans rfl
                          have v1027 := kr_t (kr_r (ad := ad)) u1024
                          have f1028 := cb_12_36 i1015 k_a0
                          have f1029 := ti_b r1013.1
                          have f1030 := ti_b r1013.1
                          exact ⟨⟨by assumption, ⟨kp_w (by decide) u1025, v1026, kr_w (by decide) v1027⟩, by first | assumption | omega, by first | assumption | omega, by first | assumption | omega⟩, ha1020, hb1021⟩
                        · have c1031 : (0 : Int) < r1004.1.toInt := o_nle h1011
                          refine ok2_biv (fun vx1032 e1033 => ?_)
                          first | (have q1034 := te_cadd (c := 1) (n := 1) rfl (1 : Int32) (by omega) (by omega); rw [← e1033] at q1034; obtain ⟨f1035, f1036, f1037⟩ := q1034) | (obtain ⟨q1034, f1035, f1036, f1037⟩ : ∃ q : Int, vx1032.toInt = (1 : Int) + (1 : Int) + 4294967296 * q ∧ -2147483648 ≤ vx1032.toInt ∧ vx1032.toInt ≤ 2147483647 := by rw [e1033]; exact ti_cadd (c := 1) (n := 1) rfl (1 : Int32))
                          have f1040 := ti_b (x2 &&& (((1 : Int32) <<< (r992.1 &&& 31)) - (1 : Int32)))
                          refine ok2_biv (fun vx1038 e1039 => ?_)
                          have f1041 : vx1038.toInt = (x2 &&& (((1 : Int32) <<< (r992.1 &&& 31)) - (1 : Int32))).toInt := congrArg Int32.toInt e1039
                          refine ok2_ite (fun h1042 => ?_) (fun h1042 => ?_)
                          · have c1043 : x1.toInt = (3 : Int) := o_eq h1042
                            refine ok2_bind (v_X12_roomEnd L hN (a0 := a0) (x1 := x2) (x2 := x3) (x3 := x4) (x4 := x5) (x5 := (0 : Int32)) k_a0 (show 0 ≤ (x4).toInt by first | assumption | omega) (show (x4).toInt ≤ (x5).toInt by first | assumption | omega) (show (x5).toInt ≤ 14000 by first | assumption | omega) (show (x5).toInt ≤ (q_I δ 12 36 a0).toInt by first | assumption | omega) I A) (fun r1044 r1044p hr1045 => ?_)
                            obtain ⟨hq1047, ha1048, hb1049⟩ := hr1045
                            try rw [hb1049]
                            try rw [ha1048]
                            have i1046 := hq1047
                            try rw [i1046]
                            have f1050 := ti_b r1044.1
                            refine ok2_ite (fun h1051 => ?_) (fun h1051 => ?_)
                            · have c1052 : r1044.1.toInt ≤ vx1038.toInt := o_le h1051
                              refine ok2_mono (vj_X12_touch_267 L hN (a0 := a0) (x1 := x1) (x2 := x2) (x3 := x3) (x4 := x4) (x5 := x5) (x9v := vx1032) (x10v := r992.1) ih k_a0 (show 2 ≤ (x3).toInt by first | assumption | omega) (show (x3).toInt ≤ 16 by first | assumption | omega) (show 0 ≤ (x4).toInt by first | assumption | omega) (show (x4).toInt ≤ (x5).toInt by first | assumption | omega) (show (x5).toInt ≤ (x4).toInt + 2000 by first | assumption | omega) (show (x5).toInt ≤ (q_I δ 12 36 a0).toInt by first | assumption | omega) (show (q_I δ 12 36 a0).toInt ≤ 12000 by first | assumption | omega) (show 1 < (x3).toInt → (q_I δ 12 36 a0).toInt ≤ 10000 by first | assumption | omega) (show 2 < (x3).toInt → (q_I δ 12 36 a0).toInt ≤ 8000 by first | assumption | omega) (show 4 < (x3).toInt → (q_I δ 12 36 a0).toInt ≤ 6000 by first | assumption | omega) (show 8 < (x3).toInt → (q_I δ 12 36 a0).toInt ≤ 4000 by first | assumption | omega) (show (x3).toInt ≤ (k : Int) by first | assumption | omega) (show (x4).toInt < (x5).toInt by first | assumption | omega) (show (x4).toInt + 3 ≤ (x5).toInt by first | assumption | omega) (show 1 ≤ (vx1032).toInt by first | assumption | omega) (show (vx1032).toInt ≤ 2 by first | assumption | omega) I A) (fun r1053 r1053p hr1054 => ?_)
                              obtain ⟨hq1059, ha1060, hb1061⟩ := hr1054
                              obtain ⟨i1055, ⟨u1062, u1063, u1064⟩, p1056, p1057, p1058⟩ := hq1059
                              have u1065 := kp_t kp_r u1062
                              have v1066 : q_V r1053.2 = q_V δ := (u1063).trans rfl
                              have v1067 := kr_t (kr_r (ad := ad)) u1064
                              have f1068 := cb_12_36 i1055 k_a0
                              have f1069 := ti_b r1053.1
                              have f1070 := ti_b r1053.1
                              exact ⟨⟨by assumption, ⟨kp_w (by decide) u1065, v1066, kr_w (by decide) v1067⟩, by first | assumption | omega, by first | assumption | omega, by first | assumption | omega⟩, ha1060, hb1061⟩
                            · have c1071 : vx1038.toInt < r1044.1.toInt := o_nle h1051
                              unfold J_X12_touch_252
                              try rw [A.1]
                              try rw [A.2.1]
                              try rw [A.2.2.1]
                              try rw [A.2.2.2.1]
                              refine ok2_bind (v_bX12_inRoom L hN (a0 := a0) (x1 := x1) (x2 := x2) (x3 := x3) (x4 := x4) (x5 := x5) ih k_a0 (show 2 ≤ (x3).toInt by first | assumption | omega) (show (x3).toInt ≤ 16 by first | assumption | omega) (show 0 ≤ (x4).toInt by first | assumption | omega) (show (x4).toInt ≤ (x5).toInt by first | assumption | omega) (show (x5).toInt ≤ (x4).toInt + 2000 by first | assumption | omega) (show (x5).toInt ≤ (q_I δ 12 36 a0).toInt by first | assumption | omega) (show (q_I δ 12 36 a0).toInt ≤ 12000 by first | assumption | omega) (show 1 < (x3).toInt → (q_I δ 12 36 a0).toInt ≤ 10000 by first | assumption | omega) (show 2 < (x3).toInt → (q_I δ 12 36 a0).toInt ≤ 8000 by first | assumption | omega) (show 4 < (x3).toInt → (q_I δ 12 36 a0).toInt ≤ 6000 by first | assumption | omega) (show 8 < (x3).toInt → (q_I δ 12 36 a0).toInt ≤ 4000 by first | assumption | omega) (show (x3).toInt ≤ (k : Int) by first | assumption | omega) I A) (fun r1072 r1072p hr1073 => ?_)
                              obtain ⟨hq1079, ha1080, hb1081⟩ := hr1073
                              try rw [hb1081]
                              obtain ⟨i1074, ⟨u1082, u1083, u1084⟩, p1075, p1076, p1077, p1078⟩ := hq1079
                              have u1085 := kp_t kp_r u1082
                              have v1086 : q_V r1072.2 = q_V δ := (u1083).trans rfl
                              have v1087 := kr_t (kr_r (ad := ad)) u1084
                              try rw [ha1080.1]
                              try rw [ha1080.2.1]
                              try rw [ha1080.2.2.1]
                              try rw [ha1080.2.2.2.1]
                              have f1088 := cb_12_36 i1074 k_a0
                              have f1089 := ti_b r1072.1
                              have f1090 := ti_b r1072.1
                              first | (have q1092 := te_add vx1032 r1072.1 (by omega) (by omega); obtain ⟨f1093, f1094, f1095⟩ := q1092) | (obtain ⟨q1092, f1093, f1094, f1095⟩ := ti_add vx1032 r1072.1)
                              exact ok2_some (show (RI ad h.1 δ0 r1072.2 ∧ (kp [(12, 36)] δ r1072.2 ∧ q_V r1072.2 = q_V δ ∧ kr ad [119] δ r1072.2) ∧ (q_I r1072.2 12 36 a0).toInt = (q_I δ 12 36 a0).toInt ∧ 1 ≤ ((vx1032 + r1072.1)).toInt ∧ ((vx1032 + r1072.1)).toInt ≤ 4 * (x3).toInt - 3) ∧ AG ad a0 r1072.2 r1072p.2 ∧ (vx1032 + r1072.1) = (vx1032 + r1072.1) from ⟨⟨i1074, ⟨kp_w (by decide) u1085, v1086, kr_w (by decide) v1087⟩, by first | assumption | omega, by first | assumption | omega, by first | assumption | omega⟩, ha1080, rfl⟩)
                          · have c1096 : x1.toInt ≠ (3 : Int) := o_ne h1042
                            refine ok2_bind (v_X12_roomEnd L hN (a0 := a0) (x1 := x2) (x2 := x3) (x3 := x4) (x4 := x5) (x5 := (1 : Int32)) k_a0 (show 0 ≤ (x4).toInt by first | assumption | omega) (show (x4).toInt ≤ (x5).toInt by first | assumption | omega) (show (x5).toInt ≤ 14000 by first | assumption | omega) (show (x5).toInt ≤ (q_I δ 12 36 a0).toInt by first | assumption | omega) I A) (fun r1097 r1097p hr1098 => ?_)
                            obtain ⟨hq1100, ha1101, hb1102⟩ := hr1098
                            try rw [hb1102]
                            try rw [ha1101]
                            have i1099 := hq1100
                            try rw [i1099]
                            have f1103 := ti_b r1097.1
                            refine ok2_ite (fun h1104 => ?_) (fun h1104 => ?_)
                            · have c1105 : vx1038.toInt ≤ r1097.1.toInt := o_le h1104
                              refine ok2_mono (vj_X12_touch_267 L hN (a0 := a0) (x1 := x1) (x2 := x2) (x3 := x3) (x4 := x4) (x5 := x5) (x9v := vx1032) (x10v := r992.1) ih k_a0 (show 2 ≤ (x3).toInt by first | assumption | omega) (show (x3).toInt ≤ 16 by first | assumption | omega) (show 0 ≤ (x4).toInt by first | assumption | omega) (show (x4).toInt ≤ (x5).toInt by first | assumption | omega) (show (x5).toInt ≤ (x4).toInt + 2000 by first | assumption | omega) (show (x5).toInt ≤ (q_I δ 12 36 a0).toInt by first | assumption | omega) (show (q_I δ 12 36 a0).toInt ≤ 12000 by first | assumption | omega) (show 1 < (x3).toInt → (q_I δ 12 36 a0).toInt ≤ 10000 by first | assumption | omega) (show 2 < (x3).toInt → (q_I δ 12 36 a0).toInt ≤ 8000 by first | assumption | omega) (show 4 < (x3).toInt → (q_I δ 12 36 a0).toInt ≤ 6000 by first | assumption | omega) (show 8 < (x3).toInt → (q_I δ 12 36 a0).toInt ≤ 4000 by first | assumption | omega) (show (x3).toInt ≤ (k : Int) by first | assumption | omega) (show (x4).toInt < (x5).toInt by first | assumption | omega) (show (x4).toInt + 3 ≤ (x5).toInt by first | assumption | omega) (show 1 ≤ (vx1032).toInt by first | assumption | omega) (show (vx1032).toInt ≤ 2 by first | assumption | omega) I A) (fun r1106 r1106p hr1107 => ?_)
                              obtain ⟨hq1112, ha1113, hb1114⟩ := hr1107
                              obtain ⟨i1108, ⟨u1115, u1116, u1117⟩, p1109, p1110, p1111⟩ := hq1112
                              have u1118 := kp_t kp_r u1115
                              have v1119 : q_V r1106.2 = q_V δ := (u1116).trans rfl
                              have v1120 := kr_t (kr_r (ad := ad)) u1117
                              have f1121 := cb_12_36 i1108 k_a0
                              have f1122 := ti_b r1106.1
                              have f1123 := ti_b r1106.1
                              exact ⟨⟨by assumption, ⟨kp_w (by decide) u1118, v1119, kr_w (by decide) v1120⟩, by first | assumption | omega, by first | assumption | omega, by first | assumption | omega⟩, ha1113, hb1114⟩
                            · have c1124 : r1097.1.toInt < vx1038.toInt := o_nle h1104
                              unfold J_X12_touch_252
                              try rw [A.1]
                              try rw [A.2.1]
                              try rw [A.2.2.1]
                              try rw [A.2.2.2.1]
                              refine ok2_bind (v_bX12_inRoom L hN (a0 := a0) (x1 := x1) (x2 := x2) (x3 := x3) (x4 := x4) (x5 := x5) ih k_a0 (show 2 ≤ (x3).toInt by first | assumption | omega) (show (x3).toInt ≤ 16 by first | assumption | omega) (show 0 ≤ (x4).toInt by first | assumption | omega) (show (x4).toInt ≤ (x5).toInt by first | assumption | omega) (show (x5).toInt ≤ (x4).toInt + 2000 by first | assumption | omega) (show (x5).toInt ≤ (q_I δ 12 36 a0).toInt by first | assumption | omega) (show (q_I δ 12 36 a0).toInt ≤ 12000 by first | assumption | omega) (show 1 < (x3).toInt → (q_I δ 12 36 a0).toInt ≤ 10000 by first | assumption | omega) (show 2 < (x3).toInt → (q_I δ 12 36 a0).toInt ≤ 8000 by first | assumption | omega) (show 4 < (x3).toInt → (q_I δ 12 36 a0).toInt ≤ 6000 by first | assumption | omega) (show 8 < (x3).toInt → (q_I δ 12 36 a0).toInt ≤ 4000 by first | assumption | omega) (show (x3).toInt ≤ (k : Int) by first | assumption | omega) I A) (fun r1125 r1125p hr1126 => ?_)
                              obtain ⟨hq1132, ha1133, hb1134⟩ := hr1126
                              try rw [hb1134]
                              obtain ⟨i1127, ⟨u1135, u1136, u1137⟩, p1128, p1129, p1130, p1131⟩ := hq1132
                              have u1138 := kp_t kp_r u1135
                              have v1139 : q_V r1125.2 = q_V δ := (u1136).trans rfl
                              have v1140 := kr_t (kr_r (ad := ad)) u1137
                              try rw [ha1133.1]
                              try rw [ha1133.2.1]
                              try rw [ha1133.2.2.1]
                              try rw [ha1133.2.2.2.1]
                              have f1141 := cb_12_36 i1127 k_a0
                              have f1142 := ti_b r1125.1
                              have f1143 := ti_b r1125.1
                              first | (have q1145 := te_add vx1032 r1125.1 (by omega) (by omega); obtain ⟨f1146, f1147, f1148⟩ := q1145) | (obtain ⟨q1145, f1146, f1147, f1148⟩ := ti_add vx1032 r1125.1)
                              exact ok2_some (show (RI ad h.1 δ0 r1125.2 ∧ (kp [(12, 36)] δ r1125.2 ∧ q_V r1125.2 = q_V δ ∧ kr ad [119] δ r1125.2) ∧ (q_I r1125.2 12 36 a0).toInt = (q_I δ 12 36 a0).toInt ∧ 1 ≤ ((vx1032 + r1125.1)).toInt ∧ ((vx1032 + r1125.1)).toInt ≤ 4 * (x3).toInt - 3) ∧ AG ad a0 r1125.2 r1125p.2 ∧ (vx1032 + r1125.1) = (vx1032 + r1125.1) from ⟨⟨i1127, ⟨kp_w (by decide) u1138, v1139, kr_w (by decide) v1140⟩, by first | assumption | omega, by first | assumption | omega, by first | assumption | omega⟩, ha1133, rfl⟩)
                      · have c1149 : (x5 - x4).toInt < (3 : Int) := o_nle h990
                        unfold J_X12_touch_174
                        try rw [A.1]
                        try rw [A.2.1]
                        try rw [A.2.2.1]
                        try rw [A.2.2.2.1]
                        exact ok2_some (show (RI ad h.1 δ0 δ ∧ (kp [(12, 36)] δ δ ∧ q_V δ = q_V δ ∧ kr ad [119] δ δ) ∧ (q_I δ 12 36 a0).toInt = (q_I δ 12 36 a0).toInt ∧ 1 ≤ (1 : Int) ∧ (1 : Int) ≤ 4 * (x3).toInt - 3) ∧ AG ad a0 δ δp ∧ (1 : Int32) = (1 : Int32) from ⟨⟨I, ⟨kp_w (by decide) kp_r, rfl, kr_w (by decide) (kr_r (ad := ad))⟩, by first | assumption | omega, by first | assumption | omega, by first | assumption | omega⟩, A, rfl⟩)
                    · have c1150 : (1 : Int) ≠ (0 : Int) := o_ne h983
                      unfold J_X12_touch_174
                      try rw [A.1]
                      try rw [A.2.1]
                      try rw [A.2.2.1]
                      try rw [A.2.2.2.1]
                      exact ok2_some (show (RI ad h.1 δ0 δ ∧ (kp [(12, 36)] δ δ ∧ q_V δ = q_V δ ∧ kr ad [119] δ δ) ∧ (q_I δ 12 36 a0).toInt = (q_I δ 12 36 a0).toInt ∧ 1 ≤ (1 : Int) ∧ (1 : Int) ≤ 4 * (x3).toInt - 3) ∧ AG ad a0 δ δp ∧ (1 : Int32) = (1 : Int32) from ⟨⟨I, ⟨kp_w (by decide) kp_r, rfl, kr_w (by decide) (kr_r (ad := ad))⟩, by first | assumption | omega, by first | assumption | omega, by first | assumption | omega⟩, A, rfl⟩)
set_option maxHeartbeats 4000000 in
theorem v_X12_touch {ad : List Nat} {h : hp} (L : Lay TLx ad h) {δ0 : dp} {N : Nat} (hN : 10000000 ≤ N) {a0 : Nat} {x1 : Int32} {x2 : Int32} {x3 : Int32} {x4 : Int32} {x5 : Int32} (k_a0 : q_K h.1 a0 = 12) {δ δp : dp} (z0 : 1 ≤ (x3).toInt) (z1 : (x3).toInt ≤ 16) (z2 : 0 ≤ (x4).toInt) (z3 : (x4).toInt ≤ (x5).toInt) (z4 : (x5).toInt ≤ (x4).toInt + 2000) (z5 : (x5).toInt ≤ (q_I δ 12 36 a0).toInt) (z6 : (q_I δ 12 36 a0).toInt ≤ 12000) (z7 : 1 < (x3).toInt → (q_I δ 12 36 a0).toInt ≤ 10000) (z8 : 2 < (x3).toInt → (q_I δ 12 36 a0).toInt ≤ 8000) (z9 : 4 < (x3).toInt → (q_I δ 12 36 a0).toInt ≤ 6000) (z10 : 8 < (x3).toInt → (q_I δ 12 36 a0).toInt ≤ 4000) (hd : (x3).toInt < 20) (I : RI ad h.1 δ0 δ) (A : AG ad a0 δ δp) : ok2 (D_X12_touch N h.1 a0 x1 x2 x3 x4 x5 δ) (D_X12_touch N h.1 a0 x1 x2 x3 x4 x5 δp) (fun r rp => (RI ad h.1 δ0 r.2 ∧ (kp [(12, 36)] δ r.2 ∧ q_V r.2 = q_V δ ∧ kr ad [119] δ r.2) ∧ (q_I r.2 12 36 a0).toInt = (q_I δ 12 36 a0).toInt ∧ 1 ≤ (r.1).toInt ∧ (r.1).toInt ≤ 4 * (x3).toInt - 3) ∧ AG ad a0 r.2 rp.2 ∧ rp.1 = r.1) := ve_X12_touch L hN 20 a0 x1 x2 x3 x4 x5 δ δp k_a0 z0 z1 z2 z3 z4 z5 z6 z7 z8 z9 z10 hd I A
set_option maxHeartbeats 4000000 in
theorem vl_X12_touchSet_8 {ad : List Nat} {h : hp} (L : Lay TLx ad h) {δ0 : dp} {N : Nat} (hN : 10000000 ≤ N) {a0 : Nat} {x1 : Int32} {x2 : Int32} {x3 : Int32} (k_a0 : q_K h.1 a0 = 12) : ∀ (n : Nat) (x4v : Int32) (δ : dp) (δp : dp), RI ad h.1 δ0 δ → 0 ≤ (x4v).toInt → (x4v).toInt ≤ 16 → (q_I δ 12 36 a0).toInt ≤ (x4v).toInt → AG ad a0 δ δp → 16 - (x4v).toInt < (n : Int) → ok2 (L_X12_touchSet_8 N h.1 a0 x1 x2 x3 n x4v δ) (L_X12_touchSet_8 N h.1 a0 x1 x2 x3 n x4v δp) (fun r rp => (RI ad h.1 δ0 r.2 ∧ (kp [(12, 36)] δ r.2 ∧ q_V r.2 = q_V δ ∧ kr ad [119] δ r.2) ∧ 1 ≤ (r.1).toInt ∧ (r.1).toInt ≤ 61) ∧ AG ad a0 r.2 rp.2 ∧ rp.1 = r.1) := by
  intro n
  induction n with
  | zero =>
    intro x4v δ δp I j0 j1 j2 A hm
    have f1 := ti_b x4v
    have f2 := cb_12_36 I k_a0
    exfalso; omega
  | succ n ih =>
    intro x4v δ δp I j0 j1 j2 A hm
    unfold L_X12_touchSet_8
    have f1 := ti_b x4v
    have f2 := cb_12_36 I k_a0
    try rw [A.1]
    try rw [A.2.1]
    try rw [A.2.2.1]
    try rw [A.2.2.2.1]
    refine ok2_ite (fun h3 => ?_) (fun h3 => ?_)
    · have c4 : (16 : Int) ≤ x4v.toInt := o_le h3
      have f7 := cb_12_10 I k_a0
      refine ok2_bind (v_X12_touch L hN (a0 := a0) (x1 := x1) (x2 := x2) (x3 := (q_I δ 12 10 a0)) (x4 := (0 : Int32)) (x5 := (q_I δ 12 36 a0)) k_a0 (show 1 ≤ ((q_I δ 12 10 a0)).toInt by first | assumption | omega) (show ((q_I δ 12 10 a0)).toInt ≤ 16 by first | assumption | omega) (show 0 ≤ (0 : Int) by first | assumption | omega) (show (0 : Int) ≤ ((q_I δ 12 36 a0)).toInt by first | assumption | omega) (show ((q_I δ 12 36 a0)).toInt ≤ (0 : Int) + 2000 by first | assumption | omega) (show ((q_I δ 12 36 a0)).toInt ≤ (q_I δ 12 36 a0).toInt by first | assumption | omega) (show (q_I δ 12 36 a0).toInt ≤ 12000 by first | assumption | omega) (show 1 < ((q_I δ 12 10 a0)).toInt → (q_I δ 12 36 a0).toInt ≤ 10000 by first | assumption | omega) (show 2 < ((q_I δ 12 10 a0)).toInt → (q_I δ 12 36 a0).toInt ≤ 8000 by first | assumption | omega) (show 4 < ((q_I δ 12 10 a0)).toInt → (q_I δ 12 36 a0).toInt ≤ 6000 by first | assumption | omega) (show 8 < ((q_I δ 12 10 a0)).toInt → (q_I δ 12 36 a0).toInt ≤ 4000 by first | assumption | omega) (show ((q_I δ 12 10 a0)).toInt < 20 by first | assumption | omega) I A) (fun r5 r5p hr6 => ?_)
      obtain ⟨hq12, ha13, hb14⟩ := hr6
      try rw [hb14]
      obtain ⟨i8, ⟨u15, u16, u17⟩, p9, p10, p11⟩ := hq12
      have u18 := kp_t kp_r u15
      have v19 : q_V r5.2 = q_V δ := (u16).trans rfl
      have v20 := kr_t (kr_r (ad := ad)) u17
      try rw [ha13.1]
      try rw [ha13.2.1]
      try rw [ha13.2.2.1]
      try rw [ha13.2.2.2.1]
      have f21 := cb_12_36 i8 k_a0
      have f22 := ti_b r5.1
      have f23 := ti_b r5.1
      exact ok2_some (show (RI ad h.1 δ0 r5.2 ∧ (kp [(12, 36)] δ r5.2 ∧ q_V r5.2 = q_V δ ∧ kr ad [119] δ r5.2) ∧ 1 ≤ (r5.1).toInt ∧ (r5.1).toInt ≤ 61) ∧ AG ad a0 r5.2 r5p.2 ∧ r5.1 = r5.1 from ⟨⟨i8, ⟨kp_w (by decide) u18, v19, kr_w (by decide) v20⟩, by first | assumption | omega, by first | assumption | omega⟩, ha13, rfl⟩)
    · have c24 : x4v.toInt < (16 : Int) := o_nle h3
      have f25 := ti_b ((x3 >>> (x4v &&& 31)) &&& (1 : Int32))
      refine ok2_ite (fun h26 => ?_) (fun h26 => ?_)
      · have c27 : ((x3 >>> (x4v &&& 31)) &&& (1 : Int32)).toInt = (0 : Int) := o_eq h26
        unfold J_X12_touchSet_48
        try rw [A.1]
        try rw [A.2.1]
        try rw [A.2.2.1]
        try rw [A.2.2.2.1]
        refine ok2_biv (fun vx28 e29 => ?_)
        first | (have q30 := te_addc (c := 1) (n := 1) rfl x4v (by omega) (by omega); rw [← e29] at q30; obtain ⟨f31, f32, f33⟩ := q30) | (obtain ⟨q30, f31, f32, f33⟩ : ∃ q : Int, vx28.toInt = x4v.toInt + (1 : Int) + 4294967296 * q ∧ -2147483648 ≤ vx28.toInt ∧ vx28.toInt ≤ 2147483647 := by rw [e29]; exact ti_addc (c := 1) (n := 1) rfl x4v)
        refine ok2_mono (ih vx28 δ δp I (show 0 ≤ (vx28).toInt by first | assumption | omega) (show (vx28).toInt ≤ 16 by first | assumption | omega) (show (q_I δ 12 36 a0).toInt ≤ (vx28).toInt by first | assumption | omega) A (show 16 - (vx28).toInt < _ by omega)) (fun r34 r34p hr35 => ?_)
        obtain ⟨hq39, ha40, hb41⟩ := hr35
        obtain ⟨i36, ⟨u42, u43, u44⟩, p37, p38⟩ := hq39
        have u45 := kp_t kp_r u42
        have v46 : q_V r34.2 = q_V δ := (u43).trans rfl
        have v47 := kr_t (kr_r (ad := ad)) u44
        have f48 := ti_b r34.1
        have f49 := ti_b r34.1
        exact ⟨⟨by assumption, ⟨kp_w (by decide) u45, v46, kr_w (by decide) v47⟩, by first | assumption | omega, by first | assumption | omega⟩, ha40, hb41⟩
      · have c50 : ((x3 >>> (x4v &&& 31)) &&& (1 : Int32)).toInt ≠ (0 : Int) := o_ne h26
        obtain ⟨b51, o52, k53, n54, w55⟩ := gO_12_35 L k_a0
        obtain rfl := gS_12_35 L k_a0 o52
        refine ok2_at o52 ?_
        have t56 := ti_tn (q_I δ 12 36 a0)
        refine ok2_gd (fun hc57 => ?_) ?_
        · rcases hc57 with hc57 | hc57
          · have c58 : (q_I δ 12 36 a0).toInt < (0 : Int) := o_lt hc57
            omega
          · omega
        refine ok2_bdv (fun d59 e60 d59p e60p => ?_)
        have i61 : RI ad h.1 δ0 d59 := by rw [e60]; exact RI.sR L I w55
        have u62 := kp_N kp_r (show q_I d59 = q_I δ by rw [e60]; rfl)
        have v63 : q_V d59 = q_V δ := ((show q_V d59 = q_V δ by rw [e60]; rfl)).trans rfl
        have v64 := kr_s L (by decide) (kr_r (ad := ad)) e60
        have ag65 : AG ad a0 d59 d59p := by rw [e60, e60p]; exact A.wr (by omega)
        try rw [ag65.1]
        try rw [ag65.2.1]
        try rw [ag65.2.2.1]
        try rw [ag65.2.2.2.1]
        have f69 := cb_12_36 i61 k_a0
        have f70 : (q_I d59 12 36 a0).toInt = (q_I δ 12 36 a0).toInt := congrArg Int32.toInt (by rw [e60]; rfl)
        first | (have q72 := te_addc (c := 1) (n := 1) rfl (q_I d59 12 36 a0) (by omega) (by omega); obtain ⟨f73, f74, f75⟩ := q72) | (obtain ⟨q72, f73, f74, f75⟩ := ti_addc (c := 1) (n := 1) rfl (q_I d59 12 36 a0))
        refine ok2_bdv (fun d66 e67 d66p e67p => ?_)
        have i68 : RI ad h.1 δ0 d66 := by rw [e67]; exact cs_12_36 L i61 k_a0 (show 0 ≤ ((q_I d59 12 36 a0) + (1 : Int32)).toInt by omega) (show ((q_I d59 12 36 a0) + (1 : Int32)).toInt ≤ 14000 by omega)
        have u76 := kp_I u62 e67
        have v77 : q_V d66 = q_V δ := ((show q_V d66 = q_V d59 by rw [e67]; rfl)).trans v63
        have v78 := kr_N v64 (show q_R d66 = q_R d59 by rw [e67]; rfl)
        have ag79 : AG ad a0 d66 d66p := A.push e60 e60p e67 e67p (by omega) (show ((q_I d59 12 36 a0) + (1 : Int32)).toInt = _ by omega)
        try rw [ag79.1]
        try rw [ag79.2.1]
        try rw [ag79.2.2.1]
        try rw [ag79.2.2.2.1]
        unfold J_X12_touchSet_48
        try rw [ag79.1]
        try rw [ag79.2.1]
        try rw [ag79.2.2.1]
        try rw [ag79.2.2.2.1]
        refine ok2_biv (fun vx80 e81 => ?_)
        first | (have q82 := te_addc (c := 1) (n := 1) rfl x4v (by omega) (by omega); rw [← e81] at q82; obtain ⟨f83, f84, f85⟩ := q82) | (obtain ⟨q82, f83, f84, f85⟩ : ∃ q : Int, vx80.toInt = x4v.toInt + (1 : Int) + 4294967296 * q ∧ -2147483648 ≤ vx80.toInt ∧ vx80.toInt ≤ 2147483647 := by rw [e81]; exact ti_addc (c := 1) (n := 1) rfl x4v)
        have f86 := cb_12_36 i68 k_a0
        have f87 : (q_I d66 12 36 a0).toInt = ((q_I d59 12 36 a0) + (1 : Int32)).toInt := congrArg Int32.toInt (show q_I d66 12 36 a0 = ((q_I d59 12 36 a0) + (1 : Int32)) by rw [e67]; exact rI_s)
        refine ok2_mono (ih vx80 d66 d66p i68 (show 0 ≤ (vx80).toInt by first | assumption | omega) (show (vx80).toInt ≤ 16 by first | assumption | omega) (show (q_I d66 12 36 a0).toInt ≤ (vx80).toInt by first | assumption | omega) ag79 (show 16 - (vx80).toInt < _ by omega)) (fun r88 r88p hr89 => ?_)
        obtain ⟨hq93, ha94, hb95⟩ := hr89
        obtain ⟨i90, ⟨u96, u97, u98⟩, p91, p92⟩ := hq93
        have u99 := kp_t u76 u96
        have v100 : q_V r88.2 = q_V δ := (u97).trans v77
        have v101 := kr_t v78 u98
        have f102 := ti_b r88.1
        have f103 := ti_b r88.1
        exact ⟨⟨by assumption, ⟨kp_w (by decide) u99, v100, kr_w (by decide) v101⟩, by first | assumption | omega, by first | assumption | omega⟩, ha94, hb95⟩
