/-! a level of the reference -/
section
variable {N : Nat} {g : gp} {a0 b E : Nat} {lw : Nat → Nat} {T : Nat → Int32 → Int32 → Int32 → Int32 → Int32 → dp → Option (Int32 × dp)} {n : Nat}
theorem r_touchB (hO : q_O g 12 35 a0 = some b) (hN : q_N g b = 14000) (E1 : 1 ≤ E) (TO : TOk a0 b E lw T n) (n20 : n ≤ 20) {x1 x2 x3 x4 x5 : Int32} {δ : dp} {w a e : Nat} (S : TS a0 b E lw δ w a e x3 x4 x5) (wn : w ≤ n + 1) (c0 : 0 ≤ x1.toInt) (c4 : x1.toInt ≤ 4) : hs (B_X12_touch N g T a0 x1 x2 x3 x4 x5 δ) (TP a0 b e δ (Tou E lw (n + 1) x1.toInt x2.toInt w (DS (mR δ b) a e))) := by
  have z1 : (1 : Int32).toInt = 1 := rfl
  have z2 : (2 : Int32).toInt = 2 := rfl
  have z3 : (3 : Int32).toInt = 3 := rfl
  obtain ⟨s1, s2, s3, s4, s5, s6, s7, s8, s9, s10⟩ := id S
  unfold B_X12_touch J_X12_touch_15
  refine hs_ite (fun c => TP_s s4 (by rw [Tou_e (Or.inl (by have := o_le c; omega))]; rfl)) (fun c => hs_ite (fun c2 => TP_s s4 (by rw [Tou_e (Or.inr (DS_0 (by have := o_eq c2; omega)))]; rfl)) (fun c2 => ?_))
  have c1 := o_nle c
  have c3 := o_ne c2
  have ae : a < e := by omega
  have w2 : 2 ≤ w := by omega
  obtain ⟨la, ga, eq1, lga⟩ := r_ends s9 ae
  have hV1 : (mR δ b a).toNat = (mR δ b (e - 1)).toNat → Tou E lw (n + 1) x1.toInt x2.toInt w (DS (mR δ b) a e) = 1 := fun q => Tou_1 (DS_l s9 ae) (DS_g s9 ae) q
  have hV : (mR δ b a).toNat ≠ (mR δ b (e - 1)).toNat → Tou E lw (n + 1) x1.toInt x2.toInt w (DS (mR δ b) a e) = TB x1.toInt x2.toInt (DS (mR δ b) (a + 1) (e - 1)) (mR δ b a).toNat (mR δ b (e - 1)).toNat (2 ^ lw w) (tR E lw n x1.toInt w (DS (mR δ b) (a + 1) (e - 1))) (tL E lw n x1.toInt w (DS (mR δ b) (a + 1) (e - 1))) := fun q => by rw [Tou_s (by omega) (DS_l s9 ae) (DS_g s9 ae) q, DS_I s9 ae]
  generalize Tou E lw (n + 1) x1.toInt x2.toInt w (DS (mR δ b) a e) = V at *
  refine hs_ite (fun cp => ?_) (fun cp => hs_ite (fun cd => ?_) (fun cd => ?_))
  · have e0 : x1.toInt = 0 := o_eq cp
    refine hs_bind (r_put hO hN TO n20 S w2 wn ae hV1 (fun q => ?_)) (fun r hr => hs_some hr)
    rw [hV q, e0]; rfl
  · have e0 : x1.toInt = 1 := o_eq cd
    refine hs_bind (r_drop hO hN TO n20 S w2 wn ae hV1 (fun q => ?_)) (fun r hr => hs_some hr)
    rw [hV q, e0]; rfl
  have np : x1.toInt ≠ 0 := o_ne cp
  have nd : x1.toInt ≠ 1 := o_ne cd
  refine hs_at hO (hs_gd (fun _ => hs_biv (fun u eu => hs_at hO (hs_gd (fun _ => hs_biv (fun v ev => ?_))))))
  have ia : x4.toNatClampNeg = a := by have := ti_tn x4; omega
  have t4 := te_subc (c := 1) (n := 1) rfl x5 (by omega) (by omega)
  have ie : (x5 - 1).toNatClampNeg = e - 1 := by have := ti_tn (x5 - 1); omega
  rw [ia] at eu
  rw [ie] at ev
  clear t4 ie
  have hu : u.toInt = (((mR δ b a).toNat : Nat) : Int) := by rw [← la, eu]; rfl
  have hv : v.toInt = (((mR δ b (e - 1)).toNat : Nat) : Int) := by rw [← ga, ev]; rfl
  clear eu ev
  have rb := fun y => tR_b (E := E) (lw := lw) (n := n) (c := x1.toInt) (w := w) (I := DS (mR δ b) (a + 1) (e - 1)) (y := y)
  refine hs_ite (fun ch => ?_) (fun ch => ?_)
  · have e0 : x1.toInt = 2 := o_eq ch
    have hH : (mR δ b a).toNat ≠ (mR δ b (e - 1)).toNat → V = TBh x2.toInt (DS (mR δ b) (a + 1) (e - 1)) (mR δ b a).toNat (mR δ b (e - 1)).toNat (2 ^ lw w) (tR E lw n x1.toInt w (DS (mR δ b) (a + 1) (e - 1))) := fun q => by
      rw [hV q]
      unfold TB
      rw [if_neg np, if_neg nd, if_neg (by omega), if_neg (by omega)]
    have one : (x2.toInt ≤ ((mR δ b a).toNat : Int) ∨ ((mR δ b (e - 1)).toNat : Int) ≤ x2.toInt ∨ ((mR δ b a).toNat ≠ (mR δ b (e - 1)).toNat ∧ Emp (Roo (DS (mR δ b) (a + 1) (e - 1)) (2 ^ lw w) (x2.toInt.toNat / 2 ^ lw w)))) → hs (J_X12_touch_98 N g T a0 x1 x2 x3 x4 x5 δ) (TP a0 b e δ V) := fun z => by
      unfold J_X12_touch_98 J_X12_touch_115
      refine TP_s s4 ?_
      by_cases q : (mR δ b a).toNat = (mR δ b (e - 1)).toNat
      · rw [hV1 q]; rfl
      · rw [hH q]
        unfold TBh
        rw [ic_t (by rcases z with z | z | z; exact Or.inl z; exact Or.inr (Or.inl z); exact Or.inr (Or.inr z.2))]; rfl
    refine hs_ite (fun c5 => one (Or.inl (by have := o_le c5; omega))) (fun c5 => hs_ite (fun c6 => one (Or.inr (Or.inl (by have := o_le c6; omega)))) (fun c6 => ?_))
    have c7 := o_nle c5
    have c8 := o_nle c6
    have q : (mR δ b a).toNat ≠ (mR δ b (e - 1)).toNat := by omega
    have hy : x2.toInt = ((x2.toInt.toNat : Nat) : Int) := by omega
    refine hs_bind (r_many hO hy s1 s2 s3 w2 s10 ae s8 s9) (fun r hr => ?_)
    obtain ⟨er, C⟩ := hr
    rw [er]
    rw [s6] at C
    have em := CN_e s9 (by omega) (by omega) C
    refine hs_ite (fun c9 => one (Or.inr (Or.inr ⟨q, em.1.mp (by have := o_eq c9; exact this)⟩))) (fun c9 => ?_)
    have c10 := o_ne c9
    have hv2 := hH q
    unfold TBh at hv2
    rw [ic_f (fun z => by rcases z with z | z | z; omega; omega; exact c10 (em.1.mpr z))] at hv2
    unfold J_X12_touch_115
    refine hs_bind (r_inRoom hO hN TO (x1 := 2) S w2 wn ae (by decide) (by decide) hy) (fun q hq => ?_)
    obtain ⟨h1, h2, h3, h4⟩ := hq
    rw [z2, ← e0] at h1
    have rb' := rb x2.toInt.toNat
    have h1' : q.1.toInt = tR E lw n x1.toInt w (DS (mR δ b) (a + 1) (e - 1)) x2.toInt.toNat := h1
    have t := te_cadd (c := 1) (n := 1) rfl q.1 (by omega) (by omega)
    exact hs_some ⟨by show (1 + q.1).toInt = V; omega, h2, h3, h4⟩
  have nh : x1.toInt ≠ 2 := o_ne ch
  have off : ((mR δ b a).toNat = (mR δ b (e - 1)).toNat ∨ (x1.toInt = 3 ∧ (x2.toInt < ((mR δ b a).toNat : Int) ∨ ((mR δ b (e - 1)).toNat : Int) ≤ x2.toInt)) ∨ (x1.toInt = 4 ∧ (((mR δ b (e - 1)).toNat : Int) < x2.toInt ∨ x2.toInt ≤ ((mR δ b a).toNat : Int)))) → hs (J_X12_touch_158 N g T a0 x1 x2 x3 x4 x5 1 δ) (TP a0 b e δ V) := fun z => by
    unfold J_X12_touch_158 J_X12_touch_174
    refine hs_ite (fun y => absurd y (by decide)) (fun _ => TP_s s4 ?_)
    by_cases q : (mR δ b a).toNat = (mR δ b (e - 1)).toNat
    · rw [hV1 q]; rfl
    · rw [hV q]
      unfold TB
      rw [if_neg np, if_neg nd]
      rcases z with z | ⟨z, z'⟩ | ⟨z, z'⟩
      · exact absurd z q
      · rw [if_pos z]
        unfold TBn
        rw [ic_t (by rcases z' with z' | z'; exact Or.inl z'; exact Or.inr (Or.inl z'))]; rfl
      · rw [if_neg (by omega), if_pos z]
        unfold TBb
        rw [ic_t (by rcases z' with z' | z'; exact Or.inl z'; exact Or.inr (Or.inl z'))]; rfl
  refine hs_ite (fun cn => ?_) (fun cn => ?_)
  · have e0 : x1.toInt = 3 := o_eq cn
    unfold J_X12_touch_133
    refine hs_ite (fun c5 => off (Or.inr (Or.inl ⟨e0, Or.inl (by have := o_lt c5; omega)⟩))) (fun c5 => hs_ite (fun c6 => ?_) (fun c6 => off (Or.inr (Or.inl ⟨e0, Or.inr (by have := o_nlt c6; omega)⟩))))
    have c7 := o_nlt c5
    have c8 := o_lt c6
    exact r_158 hO hN TO n20 S w2 wn ae (by omega) (by omega) (by omega) (by omega) (by omega) (fun _ => by omega) (fun z => absurd (e0.symm.trans z) (by decide)) (hV (by omega))
  · have e0 : x1.toInt = 4 := by have : x1.toInt ≠ 3 := o_ne cn; omega
    unfold J_X12_touch_153
    refine hs_ite (fun c5 => off (Or.inr (Or.inr ⟨e0, Or.inl (by have := o_lt c5; omega)⟩))) (fun c5 => hs_ite (fun c6 => ?_) (fun c6 => off (Or.inr (Or.inr ⟨e0, Or.inr (by have := o_nlt c6; omega)⟩))))
    have c7 := o_nlt c5
    have c8 := o_lt c6
    exact r_158 hO hN TO n20 S w2 wn ae (by omega) (by omega) (by omega) (by omega) (by omega) (fun z => absurd (e0.symm.trans z) (by decide)) (fun _ => by omega) (hV (by omega))
theorem r_touch (hO : q_O g 12 35 a0 = some b) (hN : q_N g b = 14000) (E1 : 1 ≤ E) : ∀ (k n : Nat), n ≤ 20 → TOk a0 b E lw (E_X12_touch N g k) n := by
  intro k
  induction k with
  | zero => intro n _ x1 x2 x3 x4 x5 δ w a e _ _ _ _ _; exact hs_none
  | succ k ih =>
    intro n n20 x1 x2 x3 x4 x5 δ w a e S w1 wn c0 c4
    obtain ⟨n', rfl⟩ : ∃ n', n = n' + 1 := ⟨n - 1, by omega⟩
    exact r_touchB hO hN E1 (ih n' (by omega)) (by omega) S wn c0 c4
end
