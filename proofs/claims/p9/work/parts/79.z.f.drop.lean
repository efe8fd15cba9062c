/-! drop of the reference -/
section
variable {N : Nat} {g : gp} {a0 b E : Nat} {lw : Nat → Nat} {T : Nat → Int32 → Int32 → Int32 → Int32 → Int32 → dp → Option (Int32 × dp)} {n : Nat}
theorem r_drop121 (hO : q_O g 12 35 a0 = some b) (hN : q_N g b = 14000) (TO : TOk a0 b E lw T n) (n20 : n ≤ 20) {x1 xs x8 x2 x3 x4 : Int32} {δ : dp} {w a e y : Nat} (S : TS a0 b E lw δ w a e x2 x3 x4) (w2 : 2 ≤ w) (wn : w ≤ n + 1) (ae : a < e) (hy : xs.toInt = (y : Int)) (m0 : 0 ≤ x8.toInt) (m3 : x8.toInt ≤ 3) {V : Int} (hV : V = TBe (DS (mR δ b) (a + 1) (e - 1)) (2 ^ lw w) (tR E lw n 1 w (DS (mR δ b) (a + 1) (e - 1))) (tL E lw n 1 w (DS (mR δ b) (a + 1) (e - 1))) x8.toInt y) : hs (J_X12_touchDrop_121 N g T a0 x1 x2 x3 x4 xs x8 δ) (TP a0 b e δ V) := by
  have z0 : (0 : Int32).toInt = 0 := rfl
  have z1 : (1 : Int32).toInt = 1 := rfl
  obtain ⟨s1, s2, s3, s4, s5, s6, s7, s8, s9, s10⟩ := id S
  have lb := lwf_b (m := q_I δ 12 12 a0) w2
  rw [s6] at lb
  unfold TBe at hV
  unfold J_X12_touchDrop_121 J_X12_touchDrop_165
  refine hs_bind (r_many hO hy s1 s2 s3 w2 s10 ae s8 s9) (fun r hr => ?_)
  obtain ⟨er, C⟩ := hr
  rw [er]
  rw [s6] at C
  have em := CN_e s9 (by omega) (by omega) C
  have on := CN_1 s9 (by omega) (by omega) C
  refine hs_ite (fun c => ?_) (fun c => ?_)
  · have c1 := o_eq c
    rw [ic_t (em.1.mp (by omega))] at hV
    exact TP_s s4 hV.symm
  have c1 := o_ne c
  rw [ic_f (fun z => by have := em.1.mpr z; omega)] at hV
  have rb := tR_b (E := E) (lw := lw) (n := n) (c := 1) (w := w) (I := DS (mR δ b) (a + 1) (e - 1)) (y := y)
  have lb2 := tL_b (E := E) (lw := lw) (n := n) (c := 1) (w := w) (I := DS (mR δ b) (a + 1) (e - 1)) (y := y)
  have no : ¬ (r.1.toInt = 1 ∧ DS (mR δ b) (a + 1) (e - 1) y) → hs (J_X12_touchDrop_166 N g T a0 x1 x2 x3 x4 0 x8 xs δ) (TP a0 b e δ V) := fun z => by
    rw [ic_f (fun k => z (on.mpr k))] at hV
    unfold J_X12_touchDrop_166 J_X12_touchDrop_202
    refine hs_bind (r_inRoom hO hN TO (x1 := 1) S w2 wn ae (by decide) (by decide) hy) (fun q hq => ?_)
    obtain ⟨h1, h2, h3, h4⟩ := hq
    have h1' : q.1.toInt = tR E lw n 1 w (DS (mR δ b) (a + 1) (e - 1)) y := h1
    have t := te_add x8 q.1 (by omega) (by omega)
    refine hs_ite (fun _ => hs_some ⟨?_, h2, h3, h4⟩) (fun z => absurd rfl z)
    show (x8 + q.1 + 0).toInt = V
    rw [Int32.add_zero]
    omega
  refine hs_ite (fun c2 => ?_) (fun c2 => no (fun z => by have := o_ne c2; omega))
  have c3 := o_eq c2
  refine hs_bind (r_inside hO hy s2 s3 ae s8) (fun r2 hr2 => ?_)
  obtain ⟨e2, h2⟩ := hr2
  rw [e2]
  rcases h2 with ⟨i1, i2⟩ | ⟨i1, i2⟩
  rotate_left
  · rw [i1]
    exact hs_ite (fun _ => no (fun z => i2 z.2)) (fun z => absurd rfl z)
  rw [i1]
  refine hs_ite (fun z => absurd z (by decide)) (fun _ => ?_)
  have one := on.mp ⟨by omega, i2⟩
  rw [ic_t one] at hV
  -- the room holds but one
  have r1 : tR E lw n 1 w (DS (mR δ b) (a + 1) (e - 1)) y = 1 := by
    obtain ⟨n', rfl⟩ : ∃ n', n = n' + 1 := ⟨n - 1, by omega⟩
    have al : ∀ v, Roo (DS (mR δ b) (a + 1) (e - 1)) (2 ^ lw w) (y / 2 ^ lw w) v → v = y % 2 ^ lw w := fun v ⟨z, k1, k2, k3⟩ => by rw [← k3, one.2 z k1 k2]
    have me : Roo (DS (mR δ b) (a + 1) (e - 1)) (2 ^ lw w) (y / 2 ^ lw w) (y % 2 ^ lw w) := ⟨y, i2, rfl, rfl⟩
    exact Tou_1 ⟨me, fun v hv => by rw [al v hv]; exact Nat.le_refl _⟩ ⟨me, fun v hv => by rw [al v hv]; exact Nat.le_refl _⟩ rfl
  unfold J_X12_touchDrop_166 J_X12_touchDrop_202
  refine hs_bind (r_inRoom hO hN TO (x1 := 1) S w2 wn ae (by decide) (by decide) hy) (fun q hq => ?_)
  obtain ⟨h1, h2, h3, h4⟩ := hq
  have h1' : q.1.toInt = tR E lw n 1 w (DS (mR δ b) (a + 1) (e - 1)) y := h1
  have t := te_add x8 q.1 (by omega) (by omega)
  refine hs_ite (fun z => absurd z (by decide)) (fun _ => ?_)
  have ds : DS (mR q.2 b) (a + 1) (e - 1) = DS (mR δ b) (a + 1) (e - 1) := DS_c (fun i _ p => h4.2 i (by omega))
  refine hs_bind (r_inList hO hN TO (x1 := 1) (TS_k S h2 h3 h4) w2 wn ae (by decide) (by decide) hy) (fun q2 hq2 => ?_)
  obtain ⟨k1, k2, k3, k4⟩ := hq2
  rw [ds] at k1
  have k1' : q2.1.toInt = tL E lw n 1 w (DS (mR δ b) (a + 1) (e - 1)) y := k1
  have t2 := te_add (x8 + q.1) q2.1 (by omega) (by omega)
  exact hs_some ⟨by show (x8 + q.1 + q2.1).toInt = V; omega, kp_w (by decide) (kp_t h2 k2), k3, h4.t k4 (Nat.le_refl _)⟩
theorem r_drop (hO : q_O g 12 35 a0 = some b) (hN : q_N g b = 14000) (TO : TOk a0 b E lw T n) (n20 : n ≤ 20) {x1 x2 x3 x4 : Int32} {δ : dp} {w a e : Nat} (S : TS a0 b E lw δ w a e x2 x3 x4) (w2 : 2 ≤ w) (wn : w ≤ n + 1) (ae : a < e) {V : Int} (hV1 : (mR δ b a).toNat = (mR δ b (e - 1)).toNat → V = 1) (hV : (mR δ b a).toNat ≠ (mR δ b (e - 1)).toNat → V = TBd x1.toInt (DS (mR δ b) (a + 1) (e - 1)) (mR δ b a).toNat (mR δ b (e - 1)).toNat (2 ^ lw w) (tR E lw n 1 w (DS (mR δ b) (a + 1) (e - 1))) (tL E lw n 1 w (DS (mR δ b) (a + 1) (e - 1)))) : hs (B_X12_touchDrop N g T a0 x1 x2 x3 x4 δ) (TP a0 b e δ V) := by
  have z0 : (0 : Int32).toInt = 0 := rfl
  have z1 : (1 : Int32).toInt = 1 := rfl
  have z2 : (2 : Int32).toInt = 2 := rfl
  have z3 : (3 : Int32).toInt = 3 := rfl
  obtain ⟨s1, s2, s3, s4, s5, s6, s7, s8, s9, s10⟩ := id S
  obtain ⟨la, ga, eq1, lga⟩ := r_ends s9 ae
  have GI : RG (mR δ b) (a + 1) (e - 1) w := s9.s (by omega) (by omega)
  have emI : Emp (DS (mR δ b) (a + 1) (e - 1)) ↔ e - 1 ≤ a + 1 := ⟨DS_n GI, DS_0⟩
  have t5 := te_sub x4 x3 (by omega) (by omega)
  have t1 := te_addc (c := 1) (n := 1) rfl x3 (by omega) (by omega)
  have i1 : (x3 + 1).toNatClampNeg = a + 1 := by have := ti_tn (x3 + 1); omega
  clear t1
  have t2 := te_subc (c := 2) (n := 2) rfl x4 (by omega) (by omega)
  have i2 : a + 1 < e - 1 → (x4 - 2).toNatClampNeg = e - 1 - 1 := fun z => by have := ti_tn (x4 - 2); omega
  clear t2
  have t4 := te_subc (c := 1) (n := 1) rfl x4 (by omega) (by omega)
  have ie : (x4 - 1).toNatClampNeg = e - 1 := by have := ti_tn (x4 - 1); omega
  clear t4
  unfold B_X12_touchDrop J_X12_touchDrop_31
  refine hs_at hO (hs_gd (fun _ => hs_biv (fun u eu => hs_at hO (hs_gd (fun _ => hs_biv (fun v ev => ?_))))))
  have ia : x3.toNatClampNeg = a := by have := ti_tn x3; omega
  rw [ia] at eu
  rw [ie] at ev
  have hu : u.toInt = mR δ b a := by rw [eu]; rfl
  have hv : v.toInt = mR δ b (e - 1) := by rw [ev]; rfl
  clear eu ev
  generalize (mR δ b a).toNat = va at *
  generalize (mR δ b (e - 1)).toNat = vb at *
  have one : (x1.toInt < (va : Int) ∨ (vb : Int) < x1.toInt ∨ e = a + 1 ∨ ((x1.toInt = (va : Int) ∨ x1.toInt = (vb : Int)) ∧ Emp (DS (mR δ b) (a + 1) (e - 1)))) → hs (some ((1 : Int32), δ)) (TP a0 b e δ V) := fun z => by
    refine TP_s s4 ?_
    by_cases q : va = vb
    · rw [hV1 q]; rfl
    · rw [hV q]
      unfold TBd
      rw [ic_t (by rcases z with z | z | z | z; exact Or.inl z; exact Or.inr (Or.inl z); exact absurd (eq1.mpr z) q; exact Or.inr (Or.inr z))]
      rfl
  have go : ∀ xs : Int32, (xs = 0 ∧ ¬ (x1.toInt = (va : Int) ∨ x1.toInt = (vb : Int)) ∨ xs = 1 ∧ (x1.toInt = (va : Int) ∨ x1.toInt = (vb : Int))) → hs (J_X12_touchDrop_36 N g T a0 x1 x2 x3 x4 xs u v δ) (TP a0 b e δ V) := fun xs hxs => by
    unfold J_X12_touchDrop_36 J_X12_touchDrop_71
    refine hs_ite (fun c => one (Or.inl (by have := o_lt c; omega))) (fun c => hs_ite (fun c2 => one (Or.inr (Or.inl (by have := o_lt c2; omega)))) (fun c2 => hs_ite (fun c3 => one (Or.inr (Or.inr (Or.inl (by have := o_eq c3; omega))))) (fun c3 => ?_)))
    have c1 := o_nlt c
    have c4 := o_nlt c2
    have c5 := o_ne c3
    have ne : va ≠ vb := fun q => by have := eq1.mp q; omega
    have hV' := hV ne
    unfold TBd at hV'
    rcases hxs with ⟨hx, nx⟩ | ⟨hx, ex⟩
    · rw [hx]
      refine hs_ite (fun _ => ?_) (fun z => absurd rfl z)
      unfold J_X12_touchDrop_73 J_X12_touchDrop_83
      refine hs_ite (fun _ => hs_ite (fun c6 => absurd (Or.inl (by have := o_eq c6; omega)) nx) (fun c6 => hs_ite (fun c7 => absurd (Or.inr (by have := o_eq c7; omega)) nx) (fun c7 => ?_))) (fun z => absurd rfl z)
      rw [ic_f (fun z => by rcases z with z | z | ⟨z, _⟩; omega; omega; exact nx z), ic_f nx, if_neg (fun z => nx (Or.inl z)), if_neg (fun z => nx (Or.inr z))] at hV'
      exact r_drop121 hO hN TO n20 S w2 wn ae (y := x1.toInt.toNat) (by omega) (by decide) (by decide) hV'
    · rw [hx]
      refine hs_ite (fun z => absurd z (by decide)) (fun _ => hs_ite (fun c6 => one (Or.inr (Or.inr (Or.inr ⟨ex, emI.mpr (by have := o_eq c6; omega)⟩)))) (fun c6 => ?_))
      have c7 := o_ne c6
      have ii : a + 1 < e - 1 := by omega
      rw [ic_f (fun z => by rcases z with z | z | ⟨_, z⟩; omega; omega; have := emI.mp z; omega), ic_t ex] at hV'
      unfold J_X12_touchDrop_73 J_X12_touchDrop_83
      refine hs_ite (fun z => absurd z (by decide)) (fun _ => hs_ite (fun c8 => ?_) (fun c8 => hs_ite (fun c9 => ?_) (fun c9 => ?_)))
      · have c10 := o_eq c8
        rw [if_pos (by omega), ls_e (DS_l GI ii)] at hV'
        refine hs_at hO (hs_gd (fun _ => ?_))
        rw [i1]
        have gi := (GI.2 (a + 1) (by omega) ii).1
        exact r_drop121 hO hN TO n20 S w2 wn ae (by show mR δ b (a + 1) = _; omega) (by decide) (by decide) hV'
      · have c10 := o_ne c8
        have c11 := o_eq c9
        rw [if_neg (by omega), if_pos (by omega), gs_e (DS_g GI ii)] at hV'
        refine hs_at hO (hs_gd (fun _ => ?_))
        rw [i2 ii]
        have gi := (GI.2 (e - 1 - 1) (by omega) (by omega)).1
        exact r_drop121 hO hN TO n20 S w2 wn ae (by show mR δ b (e - 1 - 1) = _; omega) (by decide) (by decide) hV'
      · have c10 := o_ne c8
        have c11 := o_ne c9
        exfalso; omega
  refine hs_ite (fun c => go 1 (Or.inr ⟨rfl, Or.inl (by have := o_eq c; omega)⟩)) (fun c => hs_ite (fun c2 => go 1 (Or.inr ⟨rfl, Or.inr (by have := o_eq c2; omega)⟩)) (fun c2 => go 0 (Or.inl ⟨rfl, fun z => ?_⟩)))
  have := o_ne c
  have := o_ne c2
  omega
end
