/-! a THIEF goes: his loops are no deeper than they were read -/
/-- what may have changed meanwhile -/
def GQ (ad : List Nat) (g : gp) (δ0 : dp) (H : Nat) (δ δ1 : dp) : Prop := RI ad g δ0 δ1 ∧ kp [(12, 36), (12, 49), (12, 50), (12, 51), (12, 52), (12, 53), (12, 54), (12, 55), (12, 56), (12, 58)] δ δ1 ∧ kr ad [102, 103, 118, 119, 126] δ δ1 ∧ sgk ad H δ δ1
theorem GQ.t {ad : List Nat} {g : gp} {δ0 : dp} {H : Nat} {δ δ1 δ2 : dp} (h : GQ ad g δ0 H δ δ1) (k : GQ ad g δ0 H δ1 δ2) : GQ ad g δ0 H δ δ2 := ⟨k.1, kp_w (by decide) (kp_t h.2.1 k.2.1), kr_w (by decide) (kr_t h.2.2.1 k.2.2.1), sgk_t h.2.2.2 k.2.2.2⟩
/-- a THIEF's steps, with how deep each was read -/
def stq (κ φ τ ρ : Nat → Int32) (t S : Nat) (dl : Nat → Nat) : Prop := ∀ i, i < S → dl i ≤ 3 ∧ ((κ (60 * t + i)).toInt = 5 → dl i ≤ 2 ∧ (φ (60 * t + i)).toInt ≤ 1000000 ∧ ∃ k : Nat, (τ (60 * t + i)).toInt = (k : Int) ∧ i < k ∧ k ≤ S ∧ ∀ j, i < j → j < k → dl i < dl j) ∧ ((κ (60 * t + i)).toInt ≠ 5 → 0 ≤ (κ (60 * t + i)).toInt ∧ (κ (60 * t + i)).toInt ≤ 4 ∧ ∃ f e : Nat, (φ (60 * t + i)).toInt = (f : Int) ∧ (τ (60 * t + i)).toInt = (e : Int) ∧ 500 * t ≤ f ∧ f ≤ e ∧ e ≤ 500 * t + 500 ∧ rn ρ (e - f) f 0 = some 1)
/-- what goes answers -/
def GA (ad : List Nat) (g : gp) (δ0 : dp) (a0 H n : Nat) (δ : dp) (r : Int32 × dp) : Prop := GQ ad g δ0 H δ r.2 ∧ bo r.1 ∧ (r.1.toInt ≠ 0 → (q_I r.2 12 58 a0).toInt = (n : Int))
set_option maxHeartbeats 4000000 in
theorem fl_goes_61 {ad : List Nat} {h : hp} (L : Lay TLx ad h) {δ0 : dp} {N : Nat} {a0 : Nat} (k_a0 : q_K h.1 a0 = 12) {κ φ τ ρ : Nat → Int32} {t S : Nat} {dl : Nat → Nat} (ht : t < 4) (hS : S ≤ 60) {T : Nat → Int32 → Int32 → Int32 → Int32 → dp → Option (Int32 × dp)} {n H i kk : Nat} (hn : n ≤ 2) {x1 x2 x3 x4 x5v x6v : Int32} {kt3 : Int32 → dp → Option (Int32 × dp)} {δb : dp} {Q : Int32 × dp → Prop} (e5 : x5v.toInt = (i : Int)) (e6 : x6v.toInt = 60 * (t : Int) + (i : Int)) (hi : i < S) (hφ : (φ (60 * t + i)).toInt ≤ 1000000) (hτ : (τ (60 * t + i)).toInt = (kk : Int)) (hkk : i < kk) (hkS : kk ≤ S)
    (hQ : ∀ r, GQ ad h.1 δ0 H δb r.2 → r.1 = 0 → Q r)
    (hT : ∀ (y z : Int32) (δ : dp), y.toInt = (i : Int) + 1 → z.toInt = (kk : Int) → RI ad h.1 δ0 δ → q_R δ (Ad ad 113) = κ → q_R δ (Ad ad 114) = φ → q_R δ (Ad ad 115) = τ → q_R δ (Ad ad 116) = ρ → (q_I δ 12 58 a0).toInt = (n : Int) + 1 → ok (T a0 x1 x2 y z δ) (GA ad h.1 δ0 a0 H (n + 1) δ))
    (hk : ∀ (y : Int32) (δ : dp), y.toInt = (kk : Int) → GQ ad h.1 δ0 H δb δ → q_R δ (Ad ad 113) = κ → q_R δ (Ad ad 114) = φ → q_R δ (Ad ad 115) = τ → q_R δ (Ad ad 116) = ρ → (q_I δ 12 58 a0).toInt = (n : Int) → ok (kt3 y δ) Q) :
    ∀ (m : Nat) (x7v : Int32) (δ : dp), 0 ≤ x7v.toInt → x7v.toInt ≤ 1000000 → GQ ad h.1 δ0 H δb δ → q_R δ (Ad ad 113) = κ → q_R δ (Ad ad 114) = φ → q_R δ (Ad ad 115) = τ → q_R δ (Ad ad 116) = ρ → (q_I δ 12 58 a0).toInt = (n : Int) + 1 → 1000000 - x7v.toInt < (m : Int) → ok (L_X12_goes_61 N h.1 T a0 x1 x2 x3 x4 kt3 m x5v x6v x7v δ) Q := by
  obtain ⟨b1, o1, _, n1, _⟩ := gO_12_30 L k_a0
  obtain rfl := gS_12_30 L k_a0 o1
  obtain ⟨b2, o2, _, n2, _⟩ := gO_12_31 L k_a0
  obtain rfl := gS_12_31 L k_a0 o2
  obtain ⟨b3, o3, _, n3, _⟩ := gO_12_57 L k_a0
  obtain rfl := gS_12_57 L k_a0 o3
  have t6 := ti_tn x6v
  have ix : x6v.toNatClampNeg = 60 * t + i := by omega
  have z0 : (0 : Int32).toInt = 0 := rfl
  intro m
  induction m with
  | zero => intro x7v δ _ _ _ _ _ _ _ _ hm; exfalso; omega
  | succ m ih =>
    intro x7v δ q0 q1 G r3 r4 r5 r6 hl hm
    unfold L_X12_goes_61
    refine ok_at o1 ?_
    refine ok_gd (fun z => ?_) ?_
    · rcases z with z | z
      · have := o_lt z; omega
      · rw [n1] at z; omega
    have l1 := te_subc (c := 1) (n := 1) rfl (q_I δ 12 58 a0) (by omega) (by omega)
    have l2 := ti_tn (q_I δ 12 58 a0 - 1)
    rw [ix, r4]
    refine ok_ite (fun c => ?_) (fun c => ?_)
    · refine ok_bdv (fun d ed => ?_)
      have Gd : GQ ad h.1 δ0 H δ d := by
        have b := ti_b (q_I δ 12 58 a0 - 1)
        refine ⟨by rw [ed]; exact RI.sI L G.1 b.1 b.2, kp_w (by decide) (kp_I kp_r ed), kr_w (by decide) (kr_N kr_r (show q_R d = q_R δ by rw [ed]; rfl)), by rw [ed]; exact sgk_r⟩
      refine ok_at o2 ?_
      refine ok_gd (fun z => ?_) ?_
      · rcases z with z | z
        · have := o_lt z; omega
        · rw [n2] at z; omega
      refine ok_biv (fun y ey => ?_)
      have e5' : q_R d (Ad ad 115) = τ := by rw [ed]; exact r5
      rw [e5'] at ey
      refine hk y d (by rw [ey]; exact hτ) (G.t Gd) (by rw [ed]; exact r3) (by rw [ed]; exact r4) e5' (by rw [ed]; exact r6) ?_
      rw [ed, rI_s]
      omega
    · have c1 := o_nle c
      refine ok_at o3 ?_
      refine ok_gd (fun z => ?_) ?_
      · rcases z with z | z
        · have := o_lt z; omega
        · rw [n3] at z; omega
      refine ok_bdv (fun d ed => ?_)
      have Gd : GQ ad h.1 δ0 H δ d := by
        refine ⟨by rw [ed]; exact RI.sR L G.1 ⟨126, by decide, by decide, by decide, rfl⟩, kp_w (by decide) (kp_N kp_r (show q_I d = q_I δ by rw [ed]; rfl)), kr_w (by decide) (kr_s L (by decide) kr_r ed), ?_⟩
        rw [ed]
        exact sgk_o (ad_ne L (by decide) (by decide) (by decide)) (ad_ne L (by decide) (by decide) (by decide))
      refine ok_at o2 ?_
      refine ok_gd (fun z => ?_) ?_
      · rcases z with z | z
        · have := o_lt z; omega
        · rw [n2] at z; omega
      have k3 : q_R d (Ad ad 113) = κ := (Gd.2.2.1 113 (by decide) (by decide) (by decide)).trans r3
      have k4 : q_R d (Ad ad 114) = φ := (Gd.2.2.1 114 (by decide) (by decide) (by decide)).trans r4
      have k5 : q_R d (Ad ad 115) = τ := (Gd.2.2.1 115 (by decide) (by decide) (by decide)).trans r5
      have k6 : q_R d (Ad ad 116) = ρ := (Gd.2.2.1 116 (by decide) (by decide) (by decide)).trans r6
      have kl : (q_I d 12 58 a0).toInt = (n : Int) + 1 := by rw [ed]; exact hl
      have y1 := te_addc (c := 1) (n := 1) rfl x5v (by omega) (by omega)
      refine ok_bind (hT (x5v + 1) (q_R d (Ad ad 115) (60 * t + i)) d (by omega) (by rw [k5]; exact hτ) Gd.1 k3 k4 k5 k6 kl) (fun r hr => ?_)
      obtain ⟨g1, g2, g3⟩ := hr
      refine ok_ite (fun c => ?_) (fun c => ?_)
      · exact ok_gp (by decide) (ok_some (hQ _ ((G.t Gd).t g1) rfl))
      · have c2 := o_ne c
        have lr := g3 (by omega)
        refine ok_biv (fun x ex => ?_)
        have hx := te_addc (c := 1) (n := 1) rfl x7v (by omega) (by omega)
        rw [← ex] at hx
        exact ih x r.2 (by omega) (by omega) ((G.t Gd).t g1) ((g1.2.2.1 113 (by decide) (by decide) (by decide)).trans k3) ((g1.2.2.1 114 (by decide) (by decide) (by decide)).trans k4) ((g1.2.2.1 115 (by decide) (by decide) (by decide)).trans k5) ((g1.2.2.1 116 (by decide) (by decide) (by decide)).trans k6) (by omega) (by omega)
set_option maxHeartbeats 4000000 in
theorem fe_goes {ad : List Nat} {h : hp} (L : Lay TLx ad h) {δ0 : dp} {N : Nat} (hN : 10000000 ≤ N) {a0 : Nat} (k_a0 : q_K h.1 a0 = 12) {κ φ τ ρ : Nat → Int32} {t S : Nat} {dl : Nat → Nat} (ht : t < 4) (hS : S ≤ 60) (st : stq κ φ τ ρ t S dl) {x1 x2 : Int32} (e1 : x1.toInt = (t : Int)) (h20 : 0 ≤ x2.toInt) (h21 : x2.toInt ≤ 3) :
    ∀ (k n : Nat) (x3 x4 : Int32) (s0 s1 : Nat) (δ : dp), n ≤ 3 → 4 ≤ n + k → x3.toInt = (s0 : Int) → x4.toInt = (s1 : Int) → s0 ≤ S → s1 ≤ S → (∀ j, s0 ≤ j → j < s1 → n ≤ dl j) → RI ad h.1 δ0 δ → q_R δ (Ad ad 113) = κ → q_R δ (Ad ad 114) = φ → q_R δ (Ad ad 115) = τ → q_R δ (Ad ad 116) = ρ → (q_I δ 12 58 a0).toInt = (n : Int) → ok (E_X12_goes N h.1 k a0 x1 x2 x3 x4 δ) (GA ad h.1 δ0 a0 x2.toNatClampNeg n δ) := by
  obtain ⟨b1, o1, _, n1, _⟩ := gO_12_29 L k_a0
  obtain rfl := gS_12_29 L k_a0 o1
  have z0 : (0 : Int32).toInt = 0 := rfl
  intro k
  induction k with
  | zero => intro n x3 x4 s0 s1 δ _ _ _ _ _ _ _ _ _ _ _ _ _; exfalso; omega
  | succ k ihk =>
    intro n x3 x4 s0 s1 δ hn hnk e3 e4 hs0 hs1 hlab I r3 r4 r5 r6 hl
    unfold E_X12_goes B_X12_goes
    have LP : ∀ (m : Nat) (x5v : Int32) (i : Nat) (d : dp), x5v.toInt = (i : Int) → s0 ≤ i → i ≤ S → GQ ad h.1 δ0 x2.toNatClampNeg δ d → q_R d (Ad ad 113) = κ → q_R d (Ad ad 114) = φ → q_R d (Ad ad 115) = τ → q_R d (Ad ad 116) = ρ → (q_I d 12 58 a0).toInt = (n : Int) → S - i < m → ok (L_X12_goes_3 N h.1 (E_X12_goes N h.1 k) a0 x1 x2 x3 x4 m x5v d) (GA ad h.1 δ0 a0 x2.toNatClampNeg n δ) := by
      intro m
      induction m with
      | zero => intro x5v i d _ _ _ _ _ _ _ _ _ hm; exfalso; omega
      | succ m ih =>
        intro x5v i d e5 hi0 hiS G k3 k4 k5 k6 kl hm
        unfold L_X12_goes_3
        refine ok_ite (fun c => ?_) (fun c => ?_)
        · exact ok_gp (by decide) (ok_some ⟨G, bo_1, fun _ => kl⟩)
        · have c1 := o_nle c
          refine ok_biv (fun x ex => ?_)
          have m1 := te_mulc (c := 60) (n := 60) rfl x1 (by omega) (by omega)
          have m2 := te_add ((60 : Int32) * x1) x5v (by omega) (by omega)
          rw [← ex] at m2
          have tx := ti_tn x
          have ix : x.toNatClampNeg = 60 * t + i := by omega
          refine ok_at o1 ?_
          refine ok_gd (fun z => ?_) ?_
          · rcases z with z | z
            · have := o_lt z; omega
            · rw [n1] at z; omega
          rw [ix, k3]
          have hdi := hlab i hi0 (by omega)
          obtain ⟨s3, sT, sC⟩ := st i (by omega)
          refine ok_ite (fun c => ?_) (fun c => ?_)
          · have c5 := o_eq c
            have c55 : (5 : Int32).toInt = 5 := rfl
            obtain ⟨d2, hφ, kk, hτ, hkk, hkS, hsub⟩ := sT (by omega)
            clear sT sC
            refine ok_bdv (fun d' ed => ?_)
            have l1 := te_addc (c := 1) (n := 1) rfl (q_I d 12 58 a0) (by omega) (by omega)
            have Gd : GQ ad h.1 δ0 x2.toNatClampNeg d d' := by
              have b := ti_b (q_I d 12 58 a0 + 1)
              refine ⟨by rw [ed]; exact RI.sI L G.1 b.1 b.2, kp_w (by decide) (kp_I kp_r ed), kr_w (by decide) (kr_N kr_r (show q_R d' = q_R d by rw [ed]; rfl)), by rw [ed]; exact sgk_r⟩
            refine fl_goes_61 L k_a0 (κ := κ) (φ := φ) (τ := τ) (ρ := ρ) (dl := dl) ht hS (n := n) (i := i) (kk := kk) (by omega) e5 (by omega) (by omega) hφ hτ hkk hkS (fun r g1 g2 => ⟨g1, Or.inl g2, fun z => absurd (by rw [g2]; rfl) z⟩) (fun y z dd ey ez Id j3 j4 j5 j6 jl => ?_) (fun y dd ey Gy j3 j4 j5 j6 jl => ?_) N 0 d' (by decide) (by decide) (G.t Gd) (by rw [ed]; exact k3) (by rw [ed]; exact k4) (by rw [ed]; exact k5) (by rw [ed]; exact k6) (by rw [ed, rI_s]; omega) (by omega)
            · exact ihk (n + 1) y z (i + 1) kk dd (by omega) (by omega) (by omega) ez (by omega) hkS (fun j j1 j2 => by have := hsub j (by omega) j2; omega) Id j3 j4 j5 j6 (by omega)
            · exact ih y kk dd ey (by omega) hkS Gy j3 j4 j5 j6 jl (by omega)
          · have c5 := o_ne c
            have c55 : (5 : Int32).toInt = 5 := rfl
            obtain ⟨kd0, kd4, f, e, hf, he, f0, f1, f2, hr⟩ := sC (by omega)
            clear sT sC
            have q4 : (q_R d (Ad ad 114) x.toNatClampNeg).toInt = (f : Int) := by rw [k4, ix]; exact hf
            have q5 : (q_R d (Ad ad 115) x.toNatClampNeg).toInt = (e : Int) := by rw [k5, ix]; exact he
            have q4' : (q_R d (Ad ad 114) x.toNatClampNeg).toInt.toNat = f := by omega
            have q5' : (q_R d (Ad ad 115) x.toNatClampNeg).toInt.toNat = e := by omega
            have hm2 : S - (i + 1) < m := by omega
            have hi2 : i + 1 ≤ S := by omega
            refine ok_bind (k_X12_steps L hN (x1 := x2) (x2 := x) k_a0 h20 h21 (by omega) (by omega) (by omega) (by omega) (by omega) (by omega) (by omega) (by omega) (by rw [q4', q5', k6]; exact hr) G.1) (fun r hq => ?_)
            obtain ⟨g1, ⟨g2, g3, g4, g5⟩, g6⟩ := hq
            have Gr : GQ ad h.1 δ0 x2.toNatClampNeg d r.2 := ⟨g1, kp_w (by decide) g2, kr_w (by decide) g4, g5⟩
            refine ok_ite (fun c => ?_) (fun c => ?_)
            · exact ok_gp (by decide) (ok_some ⟨G.t Gr, bo_0, fun z => absurd z0 z⟩)
            · refine ok_biv (fun y ey => ?_)
              have y1 := te_addc (c := 1) (n := 1) rfl x5v (by omega) (by omega)
              rw [← ey] at y1
              exact ih y (i + 1) r.2 (by rw [y1.1, e5]; rfl) (Nat.le_succ_of_le hi0) hi2 (G.t Gr) ((g4 113 (by decide) (by decide) (by decide)).trans k3) ((g4 114 (by decide) (by decide) (by decide)).trans k4) ((g4 115 (by decide) (by decide) (by decide)).trans k5) ((g4 116 (by decide) (by decide) (by decide)).trans k6) (by rw [g2 12 58 a0 (by decide)]; exact kl) hm2
    exact LP N x3 s0 δ e3 (Nat.le_refl _) hs0 ⟨I, fun _ _ _ _ => rfl, fun _ _ _ _ => rfl, sgk_r⟩ r3 r4 r5 r6 hl (by omega)
