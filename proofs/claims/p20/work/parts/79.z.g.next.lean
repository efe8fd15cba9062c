section
/-! next and before of the reference -/
section
variable {N : Nat} {g : gp} {a0 b E : Nat} {lw : Nat → Nat} {T : Nat → Int32 → Int32 → Int32 → Int32 → Int32 → dp → Option (Int32 × dp)} {n : Nat}
/-- next, before -/
theorem r_158 (hO : q_O g 12 35 a0 = some b) (hN : q_N g b = 14000) (TO : TOk a0 b E lw T n) (n20 : n ≤ 20) {x1 x2 x3 x4 x5 : Int32} {δ : dp} {w a e : Nat} (S : TS a0 b E lw δ w a e x3 x4 x5) (w2 : 2 ≤ w) (wn : w ≤ n + 1) (ae : a < e) (c34 : 3 ≤ x1.toInt) (c44 : x1.toInt ≤ 4) (x0 : 0 ≤ x2.toInt) (la : ((mR δ b a).toNat : Int) ≤ x2.toInt) (ga : x2.toInt ≤ ((mR δ b (e - 1)).toNat : Int)) (n3 : Imp (x1.toInt = 3) (x2.toInt < ((mR δ b (e - 1)).toNat : Int))) (n4 : Imp (x1.toInt = 4) (((mR δ b a).toNat : Int) < x2.toInt)) {V : Int} (hV : V = TB x1.toInt x2.toInt (DS (mR δ b) (a + 1) (e - 1)) (mR δ b a).toNat (mR δ b (e - 1)).toNat (2 ^ lw w) (tR E lw n x1.toInt w (DS (mR δ b) (a + 1) (e - 1))) (tL E lw n x1.toInt w (DS (mR δ b) (a + 1) (e - 1)))) : hs (J_X12_touch_158 N g T a0 x1 x2 x3 x4 x5 0 δ) (TP a0 b e δ V) := by
  have z0 : (0 : Int32).toInt = 0 := rfl
  have z1 : (1 : Int32).toInt = 1 := rfl
  have z2 : (2 : Int32).toInt = 2 := rfl
  have z3 : (3 : Int32).toInt = 3 := rfl
  obtain ⟨s1, s2, s3, s4, s5, s6, s7, s8, s9, s10⟩ := id S
  have lb := lwf_b (m := q_I δ 12 12 a0) w2
  rw [s6] at lb
  have GI : RG (mR δ b) (a + 1) (e - 1) w := s9.s (by omega) (by omega)
  have emI : Emp (DS (mR δ b) (a + 1) (e - 1)) ↔ e - 1 ≤ a + 1 := ⟨DS_n GI, DS_0⟩
  have t5 := te_sub x5 x4 (by omega) (by omega)
  have hy : x2.toInt = ((x2.toInt.toNat : Nat) : Int) := by omega
  generalize hva : (mR δ b a).toNat = va at *
  generalize hvb : (mR δ b (e - 1)).toNat = vb at *
  unfold TB at hV
  rw [if_neg (by omega), if_neg (by omega)] at hV
  unfold J_X12_touch_158 J_X12_touch_174
  refine hs_ite (fun _ => hs_ite (fun c => ?_) (fun c => ?_)) (fun z => absurd rfl z)
  rotate_left
  · have c1 := o_nle c
    refine TP_s s4 ?_
    have em := emI.mpr (by omega)
    rcases (show x1.toInt = 3 ∨ x1.toInt = 4 by omega) with c3 | c3
    · rw [if_pos c3] at hV
      unfold TBn at hV
      rw [ic_t (Or.inr (Or.inr em))] at hV
      rw [hV]; rfl
    · rw [if_neg (by omega), if_pos c3] at hV
      unfold TBb at hV
      rw [ic_t (Or.inr (Or.inr em))] at hV
      rw [hV]; rfl
  have c1 := o_le c
  have ii : a + 1 < e - 1 := by omega
  have nem : ¬ Emp (DS (mR δ b) (a + 1) (e - 1)) := fun z => by have := emI.mp z; omega
  -- what the answer is, by the room
  have LA := DS_l GI ii
  have GA := DS_g GI ii
  have rb := tR_b (E := E) (lw := lw) (n := n) (c := x1.toInt) (w := w) (I := DS (mR δ b) (a + 1) (e - 1)) (y := x2.toInt.toNat)
  have lb2 := tL_b (E := E) (lw := lw) (n := n) (c := x1.toInt) (w := w) (I := DS (mR δ b) (a + 1) (e - 1)) (y := x2.toInt.toNat)
  have t1 := te_addc (c := 1) (n := 1) rfl x4 (by omega) (by omega)
  have i1 : (x4 + 1).toNatClampNeg = a + 1 := by have := ti_tn (x4 + 1); omega
  clear t1
  have t2 := te_subc (c := 2) (n := 2) rfl x5 (by omega) (by omega)
  have i2 : (x5 - 2).toNatClampNeg = e - 1 - 1 := by have := ti_tn (x5 - 2); omega
  clear t2
  have ek1 : (q_R δ b (a + 1)).toInt = (((mR δ b (a + 1)).toNat : Nat) : Int) := by have := (GI.2 (a + 1) (by omega) ii).1; show mR δ b (a + 1) = _; omega
  have ek2 : (q_R δ b (e - 1 - 1)).toInt = (((mR δ b (e - 1 - 1)).toNat : Nat) : Int) := by have := (GI.2 (e - 1 - 1) (by omega) (by omega)).1; show mR δ b (e - 1 - 1) = _; omega
  refine hs_bind (r_lower s1 s10) (fun r1 hr1 => ?_)
  obtain ⟨e1, v1⟩ := hr1
  rw [e1]
  rw [s6] at v1
  have sx := sr_i hy v1 (by omega)
  have sk1 := sr_i ek1 v1 (by omega)
  have sk2 := sr_i ek2 v1 (by omega)
  refine hs_bind (r_many hO hy s1 s2 s3 w2 s10 ae s8 s9) (fun r hr => ?_)
  obtain ⟨er, C⟩ := hr
  rw [er]
  rw [s6] at C
  have em := CN_e s9 (by omega) (by omega) C
  -- the list
  have lst : ∀ (xn : Int32), 1 ≤ xn.toInt → xn.toInt ≤ 2 → V = xn.toInt + (if x1.toInt = 3 then ic (∃ z, DS (mR δ b) (a + 1) (e - 1) z ∧ x2.toInt.toNat / 2 ^ lw w < z / 2 ^ lw w) 1 0 else ic (∃ z, DS (mR δ b) (a + 1) (e - 1) z ∧ z / 2 ^ lw w < x2.toInt.toNat / 2 ^ lw w) 1 0) + tL E lw n x1.toInt w (DS (mR δ b) (a + 1) (e - 1)) x2.toInt.toNat → hs (J_X12_touch_267 N g T a0 x1 x2 x3 x4 x5 xn r1.1 δ) (TP a0 b e δ V) := fun xn hn1 hn2 hv => by
    have fin : ∀ (xs : Int32), xs.toInt = 0 ∨ xs.toInt = 1 → (xs.toInt = 0 → V = xn.toInt + tL E lw n x1.toInt w (DS (mR δ b) (a + 1) (e - 1)) x2.toInt.toNat) → (xs.toInt = 1 → V = xn.toInt + tL E lw n x1.toInt w (DS (mR δ b) (a + 1) (e - 1)) x2.toInt.toNat + 1) → hs (J_X12_touch_323 N g T a0 x1 x2 x3 x4 x5 xs xn δ) (TP a0 b e δ V) := fun xs hxs f0 f1 => by
      unfold J_X12_touch_323 J_X12_touch_349
      refine hs_bind (r_inList hO hN TO S w2 wn ae (by omega) (by omega) hy) (fun q hq => ?_)
      obtain ⟨h1, h2, h3, h4⟩ := hq
      have h1' : q.1.toInt = tL E lw n x1.toInt w (DS (mR δ b) (a + 1) (e - 1)) x2.toInt.toNat := h1
      have t := te_add xn q.1 (by omega) (by omega)
      refine hs_ite (fun z => hs_some ⟨?_, h2, h3, h4⟩) (fun z => hs_some ⟨?_, h2, h3, h4⟩)
      · have g0 := f0 (by have := o_eq z; omega)
        show (xn + q.1 + 0).toInt = V
        rw [Int32.add_zero]
        omega
      · have g1 := f1 (by rcases hxs with k | k; exact absurd (i_eq k) z; exact k)
        have t' := te_addc (c := 1) (n := 1) rfl (xn + q.1) (by omega) (by omega)
        show (xn + q.1 + 1).toInt = V
        omega
    unfold J_X12_touch_267
    refine hs_ite (fun c4 => ?_) (fun c4 => ?_)
    · have c5 : x1.toInt = 3 := o_eq c4
      rw [if_pos c5] at hv
      refine hs_at hO (hs_gd (fun _ => ?_))
      rw [i2]
      refine hs_ite (fun c6 => ?_) (fun c6 => ?_)
      · have c7 := o_le c6
        rw [ic_f (fun ⟨z, hz, lt⟩ => by
          have := Nat.div_le_div_right (c := 2 ^ lw w) (GA.2 z hz)
          omega)] at hv
        exact fin 0 (Or.inl rfl) (fun _ => by omega) (fun z => absurd z (by decide))
      · have c7 := o_nle c6
        rw [ic_t ⟨_, GA.1, by omega⟩] at hv
        exact fin 1 (Or.inr rfl) (fun z => absurd z (by decide)) (fun _ => by omega)
    · have c5 : x1.toInt ≠ 3 := o_ne c4
      rw [if_neg c5] at hv
      refine hs_at hO (hs_gd (fun _ => ?_))
      rw [i1]
      refine hs_ite (fun c6 => ?_) (fun c6 => ?_)
      · have c7 := o_le c6
        rw [ic_f (fun ⟨z, hz, lt⟩ => by
          have := Nat.div_le_div_right (c := 2 ^ lw w) (LA.2 z hz)
          omega)] at hv
        exact fin 0 (Or.inl rfl) (fun _ => by omega) (fun z => absurd z (by decide))
      · have c7 := o_nle c6
        rw [ic_t ⟨_, LA.1, by omega⟩] at hv
        exact fin 1 (Or.inr rfl) (fun z => absurd z (by decide)) (fun _ => by omega)
  refine hs_ite (fun c6 => ?_) (fun c6 => ?_)
  · have c7 := o_le c6
    have ee := em.1.mp (by omega)
    refine lst 1 (by decide) (by decide) ?_
    rcases (show x1.toInt = 3 ∨ x1.toInt = 4 by omega) with c3 | c3
    · rw [if_pos c3] at hV ⊢
      unfold TBn at hV
      rw [ic_f (fun z => by have := n3 c3; rcases z with z | z | z; omega; omega; exact nem z), ic_f (fun ⟨v, hv, _⟩ => ee v hv.1), ic_t ee] at hV
      rw [hV]; rfl
    · rw [if_neg (by omega), if_pos c3] at hV
      rw [if_neg (by omega)]
      unfold TBb at hV
      rw [ic_f (fun z => by have := n4 c3; rcases z with z | z | z; omega; omega; exact nem z), ic_f (fun ⟨v, hv, _⟩ => ee v hv.1), ic_t ee] at hV
      rw [hV]; rfl
  have c7 := o_nle c6
  have ne : ¬ Emp (Roo (DS (mR δ b) (a + 1) (e - 1)) (2 ^ lw w) (x2.toInt.toNat / 2 ^ lw w)) := fun z => by have := em.1.mpr z; omega
  refine hs_biv (fun u2 eu2 => hs_biv (fun lo elo => ?_))
  have hu2 : u2.toInt = 2 := by rw [eu2]; rfl
  have hlo : lo.toInt = ((x2.toInt.toNat % 2 ^ lw w : Nat) : Int) := by rw [elo]; exact ms_i hy v1 (by omega)
  clear eu2 elo
  have room : V = 2 + tR E lw n x1.toInt w (DS (mR δ b) (a + 1) (e - 1)) x2.toInt.toNat → hs (J_X12_touch_252 N g T a0 x1 x2 x3 x4 x5 u2 δ) (TP a0 b e δ V) := fun hv => by
    unfold J_X12_touch_252
    refine hs_bind (r_inRoom hO hN TO S w2 wn ae (by omega) (by omega) hy) (fun q hq => ?_)
    obtain ⟨h1, h2, h3, h4⟩ := hq
    have h1' : q.1.toInt = tR E lw n x1.toInt w (DS (mR δ b) (a + 1) (e - 1)) x2.toInt.toNat := h1
    have t := te_add u2 q.1 (by omega) (by omega)
    exact hs_some ⟨by show (u2 + q.1).toInt = V; omega, h2, h3, h4⟩
  have ne' := ne
  rw [← s6] at ne'
  refine hs_ite (fun c4 => ?_) (fun c4 => ?_)
  · have c5 : x1.toInt = 3 := o_eq c4
    have n3' := n3 c5
    rw [if_pos c5] at hV
    unfold TBn at hV
    rw [ic_f (fun z => by rcases z with z | z | z; omega; omega; exact nem z)] at hV
    refine hs_bind (r_end hO hy s1 s2 s3 w2 s10 ae s8 s9 ne') (fun q hq => ?_)
    obtain ⟨eq, v, hv, _, hg⟩ := hq
    have G := hg rfl
    rw [s6] at G
    rw [eq]
    refine hs_ite (fun c8 => ?_) (fun c8 => ?_)
    · have c9 := o_le c8
      rw [ic_f (fun ⟨v', hv', lt⟩ => by have := Gst_u hv' G; omega), ic_f ne] at hV
      refine lst u2 (by omega) (by omega) ?_
      rw [if_pos c5, hV]
      omega
    · have c9 := o_nle c8
      rw [ic_t ⟨v, G, by omega⟩] at hV
      exact room hV
  · have c5 : x1.toInt = 4 := by have : x1.toInt ≠ 3 := o_ne c4; omega
    have n4' := n4 c5
    rw [if_neg (by omega), if_pos c5] at hV
    unfold TBb at hV
    rw [ic_f (fun z => by rcases z with z | z | z; omega; omega; exact nem z)] at hV
    refine hs_bind (r_end hO hy s1 s2 s3 w2 s10 ae s8 s9 ne') (fun q hq => ?_)
    obtain ⟨eq, v, hv, hl, _⟩ := hq
    have G := hl (by decide)
    rw [s6] at G
    rw [eq]
    refine hs_ite (fun c8 => ?_) (fun c8 => ?_)
    · have c9 := o_le c8
      rw [ic_f (fun ⟨v', hv', lt⟩ => by have := Lst_u hv' G; omega), ic_f ne] at hV
      refine lst u2 (by omega) (by omega) ?_
      rw [if_neg (by omega), hV]
      omega
    · have c9 := o_nle c8
      rw [ic_t ⟨v, G, by omega⟩] at hV
      exact room hV
end
end
section
/-! a level of the reference -/
section
variable {N : Nat} {g : gp} {a0 b E : Nat} {lw : Nat → Nat} {T : Nat → Int32 → Int32 → Int32 → Int32 → Int32 → dp → Option (Int32 × dp)} {n : Nat}
theorem r_touchB (hO : q_O g 12 35 a0 = some b) (hN : q_N g b = 14000) (E1 : 1 ≤ E) (TO : TOk a0 b E lw T n) (n20 : n ≤ 20) {x1 x2 x3 x4 x5 : Int32} {δ : dp} {w a e : Nat} (S : TS a0 b E lw δ w a e x3 x4 x5) (wn : w ≤ n + 1) (c0 : 0 ≤ x1.toInt) (c4 : x1.toInt ≤ 4) : hs (B_X12_touch N g T a0 x1 x2 x3 x4 x5 δ) (TP a0 b e δ (Tou E lw (n + 1) x1.toInt x2.toInt w (DS (mR δ b) a e))) := by
  have z1 : (1 : Int32).toInt = 1 := rfl
  have z2 : (2 : Int32).toInt = 2 := rfl
  have z3 : (3 : Int32).toInt = 3 := rfl
  obtain ⟨s1, s2, s3, s4, s5, s6, s7, s8, s9, s10⟩ := id S
  unfold B_X12_touch J_X12_touch_15
  refine hs_ite (fun c => TP_s s4 (by rw [Tou_e (Or.inl (by have := o_le c; omega))]; rfl)) (fun c => hs_ite (fun c2 => TP_s s4 (by rw [Tou_e (Or.inr (DS_0 (by have := o_eq c2; omega)))]; rfl)) (fun c2 => ?_))
  have c1 := o_nle c
  have c3 := o_ne c2
  have ae : a < e := by omega
  have w2 : 2 ≤ w := by omega
  obtain ⟨la, ga, eq1, lga⟩ := r_ends s9 ae
  have hV1 : (mR δ b a).toNat = (mR δ b (e - 1)).toNat → Tou E lw (n + 1) x1.toInt x2.toInt w (DS (mR δ b) a e) = 1 := fun q => Tou_1 (DS_l s9 ae) (DS_g s9 ae) q
  have hV : (mR δ b a).toNat ≠ (mR δ b (e - 1)).toNat → Tou E lw (n + 1) x1.toInt x2.toInt w (DS (mR δ b) a e) = TB x1.toInt x2.toInt (DS (mR δ b) (a + 1) (e - 1)) (mR δ b a).toNat (mR δ b (e - 1)).toNat (2 ^ lw w) (tR E lw n x1.toInt w (DS (mR δ b) (a + 1) (e - 1))) (tL E lw n x1.toInt w (DS (mR δ b) (a + 1) (e - 1))) := fun q => by rw [Tou_s (by omega) (DS_l s9 ae) (DS_g s9 ae) q, DS_I s9 ae]
  generalize Tou E lw (n + 1) x1.toInt x2.toInt w (DS (mR δ b) a e) = V at *
  refine hs_ite (fun cp => ?_) (fun cp => hs_ite (fun cd => ?_) (fun cd => ?_))
  · have e0 : x1.toInt = 0 := o_eq cp
    refine hs_bind (r_put hO hN TO n20 S w2 wn ae hV1 (fun q => ?_)) (fun r hr => hs_some hr)
    rw [hV q, e0]; rfl
  · have e0 : x1.toInt = 1 := o_eq cd
    refine hs_bind (r_drop hO hN TO n20 S w2 wn ae hV1 (fun q => ?_)) (fun r hr => hs_some hr)
    rw [hV q, e0]; rfl
  have np : x1.toInt ≠ 0 := o_ne cp
  have nd : x1.toInt ≠ 1 := o_ne cd
  refine hs_at hO (hs_gd (fun _ => hs_biv (fun u eu => hs_at hO (hs_gd (fun _ => hs_biv (fun v ev => ?_))))))
  have ia : x4.toNatClampNeg = a := by have := ti_tn x4; omega
  have t4 := te_subc (c := 1) (n := 1) rfl x5 (by omega) (by omega)
  have ie : (x5 - 1).toNatClampNeg = e - 1 := by have := ti_tn (x5 - 1); omega
  rw [ia] at eu
  rw [ie] at ev
  clear t4 ie
  have hu : u.toInt = (((mR δ b a).toNat : Nat) : Int) := by rw [← la, eu]; rfl
  have hv : v.toInt = (((mR δ b (e - 1)).toNat : Nat) : Int) := by rw [← ga, ev]; rfl
  clear eu ev
  have rb := fun y => tR_b (E := E) (lw := lw) (n := n) (c := x1.toInt) (w := w) (I := DS (mR δ b) (a + 1) (e - 1)) (y := y)
  refine hs_ite (fun ch => ?_) (fun ch => ?_)
  · have e0 : x1.toInt = 2 := o_eq ch
    have hH : (mR δ b a).toNat ≠ (mR δ b (e - 1)).toNat → V = TBh x2.toInt (DS (mR δ b) (a + 1) (e - 1)) (mR δ b a).toNat (mR δ b (e - 1)).toNat (2 ^ lw w) (tR E lw n x1.toInt w (DS (mR δ b) (a + 1) (e - 1))) := fun q => by
      rw [hV q]
      unfold TB
      rw [if_neg np, if_neg nd, if_neg (by omega), if_neg (by omega)]
    have one : (x2.toInt ≤ ((mR δ b a).toNat : Int) ∨ ((mR δ b (e - 1)).toNat : Int) ≤ x2.toInt ∨ ((mR δ b a).toNat ≠ (mR δ b (e - 1)).toNat ∧ Emp (Roo (DS (mR δ b) (a + 1) (e - 1)) (2 ^ lw w) (x2.toInt.toNat / 2 ^ lw w)))) → hs (J_X12_touch_98 N g T a0 x1 x2 x3 x4 x5 δ) (TP a0 b e δ V) := fun z => by
      unfold J_X12_touch_98 J_X12_touch_115
      refine TP_s s4 ?_
      by_cases q : (mR δ b a).toNat = (mR δ b (e - 1)).toNat
      · rw [hV1 q]; rfl
      · rw [hH q]
        unfold TBh
        rw [ic_t (by rcases z with z | z | z; exact Or.inl z; exact Or.inr (Or.inl z); exact Or.inr (Or.inr z.2))]; rfl
    refine hs_ite (fun c5 => one (Or.inl (by have := o_le c5; omega))) (fun c5 => hs_ite (fun c6 => one (Or.inr (Or.inl (by have := o_le c6; omega)))) (fun c6 => ?_))
    have c7 := o_nle c5
    have c8 := o_nle c6
    have q : (mR δ b a).toNat ≠ (mR δ b (e - 1)).toNat := by omega
    have hy : x2.toInt = ((x2.toInt.toNat : Nat) : Int) := by omega
    refine hs_bind (r_many hO hy s1 s2 s3 w2 s10 ae s8 s9) (fun r hr => ?_)
    obtain ⟨er, C⟩ := hr
    rw [er]
    rw [s6] at C
    have em := CN_e s9 (by omega) (by omega) C
    refine hs_ite (fun c9 => one (Or.inr (Or.inr ⟨q, em.1.mp (by have := o_eq c9; exact this)⟩))) (fun c9 => ?_)
    have c10 := o_ne c9
    have hv2 := hH q
    unfold TBh at hv2
    rw [ic_f (fun z => by rcases z with z | z | z; omega; omega; exact c10 (em.1.mpr z))] at hv2
    unfold J_X12_touch_115
    refine hs_bind (r_inRoom hO hN TO (x1 := 2) S w2 wn ae (by decide) (by decide) hy) (fun q hq => ?_)
    obtain ⟨h1, h2, h3, h4⟩ := hq
    rw [z2, ← e0] at h1
    have rb' := rb x2.toInt.toNat
    have h1' : q.1.toInt = tR E lw n x1.toInt w (DS (mR δ b) (a + 1) (e - 1)) x2.toInt.toNat := h1
    have t := te_cadd (c := 1) (n := 1) rfl q.1 (by omega) (by omega)
    exact hs_some ⟨by show (1 + q.1).toInt = V; omega, h2, h3, h4⟩
  have nh : x1.toInt ≠ 2 := o_ne ch
  have off : ((mR δ b a).toNat = (mR δ b (e - 1)).toNat ∨ (x1.toInt = 3 ∧ (x2.toInt < ((mR δ b a).toNat : Int) ∨ ((mR δ b (e - 1)).toNat : Int) ≤ x2.toInt)) ∨ (x1.toInt = 4 ∧ (((mR δ b (e - 1)).toNat : Int) < x2.toInt ∨ x2.toInt ≤ ((mR δ b a).toNat : Int)))) → hs (J_X12_touch_158 N g T a0 x1 x2 x3 x4 x5 1 δ) (TP a0 b e δ V) := fun z => by
    unfold J_X12_touch_158 J_X12_touch_174
    refine hs_ite (fun y => absurd y (by decide)) (fun _ => TP_s s4 ?_)
    by_cases q : (mR δ b a).toNat = (mR δ b (e - 1)).toNat
    · rw [hV1 q]; rfl
    · rw [hV q]
      unfold TB
      rw [if_neg np, if_neg nd]
      rcases z with z | ⟨z, z'⟩ | ⟨z, z'⟩
      · exact absurd z q
      · rw [if_pos z]
        unfold TBn
        rw [ic_t (by rcases z' with z' | z'; exact Or.inl z'; exact Or.inr (Or.inl z'))]; rfl
      · rw [if_neg (by omega), if_pos z]
        unfold TBb
        rw [ic_t (by rcases z' with z' | z'; exact Or.inl z'; exact Or.inr (Or.inl z'))]; rfl
  refine hs_ite (fun cn => ?_) (fun cn => ?_)
  · have e0 : x1.toInt = 3 := o_eq cn
    unfold J_X12_touch_133
    refine hs_ite (fun c5 => off (Or.inr (Or.inl ⟨e0, Or.inl (by have := o_lt c5; omega)⟩))) (fun c5 => hs_ite (fun c6 => ?_) (fun c6 => off (Or.inr (Or.inl ⟨e0, Or.inr (by have := o_nlt c6; omega)⟩))))
    have c7 := o_nlt c5
    have c8 := o_lt c6
    exact r_158 hO hN TO n20 S w2 wn ae (by omega) (by omega) (by omega) (by omega) (by omega) (fun _ => by omega) (fun z => absurd (e0.symm.trans z) (by decide)) (hV (by omega))
  · have e0 : x1.toInt = 4 := by have : x1.toInt ≠ 3 := o_ne cn; omega
    unfold J_X12_touch_153
    refine hs_ite (fun c5 => off (Or.inr (Or.inr ⟨e0, Or.inl (by have := o_lt c5; omega)⟩))) (fun c5 => hs_ite (fun c6 => ?_) (fun c6 => off (Or.inr (Or.inr ⟨e0, Or.inr (by have := o_nlt c6; omega)⟩))))
    have c7 := o_nlt c5
    have c8 := o_lt c6
    exact r_158 hO hN TO n20 S w2 wn ae (by omega) (by omega) (by omega) (by omega) (by omega) (fun z => absurd (e0.symm.trans z) (by decide)) (fun _ => by omega) (hV (by omega))
theorem r_touch (hO : q_O g 12 35 a0 = some b) (hN : q_N g b = 14000) (E1 : 1 ≤ E) : ∀ (k n : Nat), n ≤ 20 → TOk a0 b E lw (E_X12_touch N g k) n := by
  intro k
  induction k with
  | zero => intro n _ x1 x2 x3 x4 x5 δ w a e _ _ _ _ _; exact hs_none
  | succ k ih =>
    intro n n20 x1 x2 x3 x4 x5 δ w a e S w1 wn c0 c4
    obtain ⟨n', rfl⟩ : ∃ n', n = n' + 1 := ⟨n - 1, by omega⟩
    exact r_touchB hO hN E1 (ih n' (by omega)) (by omega) S wn c0 c4
end
end
section
/-! TOUCHES of a set told by bits -/
def bitS (s : Int32) (y : Nat) : Prop := y < 16 ∧ ¬ ((s >>> (Int32.ofNat y &&& 31)) &&& (1 : Int32)) = 0
section
variable {N : Nat} {g : gp} {a0 b : Nat}
theorem r_setL (hO : q_O g 12 35 a0 = some b) (hN : q_N g b = 14000) {x1 x2 x3 : Int32} {δ : dp} {E w : Nat} (E1 : 1 ≤ E) (hE : (q_I δ 12 11 a0).toInt = (E : Int)) (hw : (q_I δ 12 10 a0).toInt = (w : Int)) (w1 : 1 ≤ w) (w16 : w ≤ 16) (c0 : 0 ≤ x1.toInt) (c4 : x1.toInt ≤ 4) : ∀ (m v T : Nat) (x4 : Int32) (d : dp), x4.toInt = (v : Int) → v ≤ 16 → (q_I d 12 36 a0).toInt = (T : Int) → T ≤ v → kp [(12, 36)] δ d → (∀ i j, 0 ≤ i → i < j → j < T → mR d b i < mR d b j) → (∀ i, 0 ≤ i → i < T → 0 ≤ mR d b i) → (∀ y, DS (mR d b) 0 T y ↔ y < v ∧ bitS x3 y) → hs (L_X12_touchSet_8 N g a0 x1 x2 x3 m x4 d) (fun r => r.1.toInt = Tou E (lwf (q_I δ 12 12 a0)) 20 x1.toInt x2.toInt w (bitS x3)) := by
  have z16 : (16 : Int32).toInt = 16 := rfl
  intro m
  induction m with
  | zero => intro v T x4 d _ _ _ _ _ _ _ _; exact hs_none
  | succ m ih =>
    intro v T x4 d h4 v16 hT Tv kpd st nn se
    unfold L_X12_touchSet_8 J_X12_touchSet_48
    refine hs_ite (fun c => ?_) (fun c => ?_)
    · have c1 := o_le c
      have es : DS (mR d b) 0 T = bitS x3 := by
        funext y
        exact propext ((se y).trans ⟨fun z => z.2, fun z => ⟨by have := z.1; omega, z⟩⟩)
      unfold D_X12_touch
      refine hs_bind (r_touch (lw := lwf (q_I δ 12 12 a0)) hO hN E1 20 20 (by decide) x1 x2 (q_I d 12 10 a0) 0 (q_I d 12 36 a0) d w 0 T ⟨by rw [kpd 12 10 a0 (by decide)]; exact hw, rfl, hT, hT, by rw [kpd 12 11 a0 (by decide)]; exact hE, by rw [kpd 12 12 a0 (by decide)], Nat.zero_le _, by omega, ⟨st, fun i p q => ⟨nn i p q, trivial⟩⟩, w16⟩ w1 (by omega) c0 c4) (fun q hq => hs_some ?_)
      have := hq.1
      rw [es] at this
      exact this
    · have c1 := o_nle c
      have e4 : x4 = Int32.ofNat v := Int32.toInt_inj.mp (by rw [Int32.toInt_ofNat_of_lt (by omega)]; exact h4)
      have t4 := te_addc (c := 1) (n := 1) rfl x4 (by omega) (by omega)
      refine hs_ite (fun c2 => ?_) (fun c2 => ?_)
      · refine hs_biv (fun y ey => ?_)
        rw [← ey] at t4
        refine ih (v + 1) T y d (by omega) (by omega) hT (by omega) kpd st nn (fun u => ?_)
        rw [se u]
        constructor
        · intro z; exact ⟨by omega, z.2⟩
        · intro z
          by_cases k : u = v
          · rw [k] at z
            rw [e4] at c2
            exact absurd c2 z.2.2
          · exact ⟨by omega, z.2⟩
      · refine hs_at hO (hs_gd (fun gd => hs_bdv (fun d1 e1 => hs_bdv (fun d2 e2 => hs_biv (fun y ey => ?_)))))
        have iT : (q_I d 12 36 a0).toNatClampNeg = T := by have := ti_tn (q_I d 12 36 a0); omega
        rw [iT] at e1
        clear gd
        have q1 : q_I d1 12 36 a0 = q_I d 12 36 a0 := by rw [e1]; rfl
        have t7 := te_addc (c := 1) (n := 1) rfl (q_I d 12 36 a0) (by omega) (by omega)
        rw [← ey] at t4
        have w2 : q_R d2 = q_R d1 := by rw [e2]; rfl
        have r2 : ∀ i, mR d2 b i = if i = T then (v : Int) else mR d b i := fun i => by
          rw [mR_w w2]
          show (q_R d1 b i).toInt = _
          rw [e1, qR_sR]
          by_cases z : i = T
          · rw [if_pos ⟨rfl, z⟩, if_pos z]; exact h4
          · rw [if_neg (fun y => z y.2), if_neg z]; rfl
        have rT : mR d2 b T = (v : Int) := by rw [r2, if_pos rfl]
        have ro : ∀ i, 0 ≤ i → i < T → mR d2 b i = mR d b i := fun i _ q => by rw [r2, if_neg (by omega)]
        have lt : ∀ i, 0 ≤ i → i < T → mR d b i < (v : Int) := fun i p q => by
          have n0 := nn i p q
          have := ((se (mR d b i).toNat).mp ⟨i, p, q, by omega⟩).1
          omega
        refine ih (v + 1) (T + 1) y d2 (by omega) (by omega) (by rw [e2, rI_s, q1]; omega) (by omega) (kp_w (by decide) (kp_I (kp_N kpd (by rw [e1]; rfl)) e2)) (fun i j p q r => ?_) (fun i p q => ?_) (fun u => ?_)
        · by_cases z : j = T
          · rw [z, rT, ro i p (by omega)]; exact lt i p (by omega)
          · rw [ro i p (by omega), ro j (by omega) (by omega)]; exact st i j p q (by omega)
        · by_cases z : i = T
          · rw [z, rT]; exact Int.natCast_nonneg _
          · rw [ro i p (by omega)]; exact nn i p (by omega)
        · rw [DS_push (Nat.zero_le T) rT ro u, se u]
          constructor
          · rintro (z | z)
            · exact ⟨by omega, z.2⟩
            · refine ⟨by omega, by omega, ?_⟩
              rw [z, ← e4]; exact c2
          · rintro ⟨p, q⟩
            by_cases k : u = v
            · exact Or.inr k
            · exact Or.inl ⟨by omega, q⟩
theorem r_touchSet (hO : q_O g 12 35 a0 = some b) (hN : q_N g b = 14000) {x1 x2 x3 : Int32} {δ : dp} {E w : Nat} (E1 : 1 ≤ E) (hE : (q_I δ 12 11 a0).toInt = (E : Int)) (hw : (q_I δ 12 10 a0).toInt = (w : Int)) (w1 : 1 ≤ w) (w16 : w ≤ 16) (c0 : 0 ≤ x1.toInt) (c4 : x1.toInt ≤ 4) : hs (D_X12_touchSet N g a0 x1 x2 x3 δ) (fun r => r.1.toInt = Tou E (lwf (q_I δ 12 12 a0)) 20 x1.toInt x2.toInt w (bitS x3)) := by
  unfold D_X12_touchSet
  exact hs_bdv (fun d e => r_setL hO hN E1 hE hw w1 w16 c0 c4 N 0 0 0 d rfl (by decide) (by rw [e, rI_s]; rfl) (Nat.le_refl _) (kp_I kp_r e) (fun i j p q r => by omega) (fun i p q => by omega) (fun y => ⟨fun ⟨k, p, q, _⟩ => by omega, fun z => by omega⟩))
end
end
section
/-! the worst row of calls, by the table: every entry is attained -/
def bh (c x s : Int32) : Int32 := if c = 0 then s ||| ((1 : Int32) <<< (x &&& 31)) else if c = 1 then s &&& (((1 : Int32) <<< (x &&& 31)) ^^^ (-1)) else s
theorem behind_eq {N : Nat} {g : gp} {a0 : Nat} {x1 x2 x3 : Int32} {δ : dp} : D_X12_behind N g a0 x1 x2 x3 δ = some (bh x1 x2 x3, δ) := by
  unfold D_X12_behind bh J_X12_behind_28
  split
  · rfl
  · split <;> rfl
theorem bh_r {a : Nat} (ha : a ≤ 16) (c : Int32) {x s : Int32} (s0 : 0 ≤ s.toInt) (s1 : s.toInt < ((2 ^ a : Nat) : Int)) (x0 : 0 ≤ x.toInt) (x1 : x.toInt < a) : 0 ≤ (bh c x s).toInt ∧ (bh c x s).toInt < ((2 ^ a : Nat) : Int) ∧ pc 16 (un (bh c x s)) ≤ pc 16 (un s) + 1 := by
  have es := un_i s0
  have h2 : 2 ^ a ≤ 2 ^ 16 := Nat.pow_le_pow_right (by decide) ha
  have h3 : (2 : Nat) ^ 16 = 65536 := by decide
  have su : un s < 2 ^ a := by omega
  unfold bh
  split
  · have e : un (s ||| ((1 : Int32) <<< (x &&& 31))) = un s ||| 2 ^ x.toInt.toNat := by rw [un_or, un_sl x0 (by omega)]
    have l : un (s ||| ((1 : Int32) <<< (x &&& 31))) < 2 ^ a := by
      rw [e]
      exact Nat.or_lt_two_pow su (Nat.pow_lt_pow_right (by decide) (by omega))
    have t := un_o (a := s ||| ((1 : Int32) <<< (x &&& 31))) (by omega)
    refine ⟨by omega, by omega, ?_⟩
    rw [e]
    exact pc_or 16 _ _
  · split
    · have e := un_and s (((1 : Int32) <<< (x &&& 31)) ^^^ (-1))
      have l : un (s &&& (((1 : Int32) <<< (x &&& 31)) ^^^ (-1))) ≤ un s := by rw [e]; exact Nat.and_le_left
      have t := un_o (a := s &&& (((1 : Int32) <<< (x &&& 31)) ^^^ (-1))) (by omega)
      refine ⟨by omega, by omega, ?_⟩
      rw [e]
      exact Nat.le_succ_of_le (pc_and 16 _ _)
    · exact ⟨s0, s1, Nat.le_succ _⟩
theorem pc_le (k : Nat) : ∀ s, pc k s ≤ k := by
  induction k with
  | zero => intro s; exact Nat.le_refl _
  | succ k ih =>
    intro s
    show s % 2 + pc k (s / 2) ≤ k + 1
    have := ih (s / 2)
    omega
theorem fl_ones {N : Nat} {g : gp} {x0 : Int32} : ∀ (n : Nat) (x1v x2v : Int32) (δ : dp), 0 ≤ x2v.toInt → x2v.toInt < 65536 → 0 ≤ x1v.toInt → x1v.toInt + (pc 16 (un x2v) : Int) ≤ 1000 → x2v.toInt < (n : Int) → ok (L_X12_ones_4 N g x0 n x1v x2v δ) (fun r => r.2 = δ ∧ r.1.toInt = x1v.toInt + (pc 16 (un x2v) : Int)) := by
  intro n
  induction n with
  | zero => intro x1v x2v δ a b c d e; exfalso; omega
  | succ n ih =>
    intro x1v x2v δ a b c d e
    unfold L_X12_ones_4
    have ue := un_i a
    refine ok_ite (fun z => ok_some ⟨rfl, ?_⟩) (fun z => ?_)
    · show x1v.toInt = _
      rw [z, show un 0 = 0 from rfl, pc_0]; omega
    · have z1 := o_ne z
      have z0 : (0 : Int32).toInt = 0 := rfl
      refine ok_biv (fun y ey => ok_biv (fun w ew => ?_))
      have y1 := te_addc (c := 1) (n := 1) rfl x1v (by omega) (by omega)
      rw [← ey] at y1
      have s1 := te_subc (c := 1) (n := 1) rfl x2v (by omega) (by omega)
      have us := un_i (a := x2v - 1) (by omega)
      have uw : un w = un x2v &&& (un x2v - 1) := by
        rw [ew, un_and]
        congr 1
        omega
      have lw : un w ≤ un x2v - 1 := by rw [uw]; exact Nat.and_le_right
      have tw := un_o (a := w) (by omega)
      have hp := pc_dec 16 (un x2v) (by omega) (by have : (2 : Nat) ^ 16 = 65536 := by decide
                                                   omega)
      rw [← uw] at hp
      refine ok_mono (ih y w δ (by omega) (by omega) (by omega) (by omega) (by omega)) (fun r hr => ⟨hr.1, ?_⟩)
      rw [hr.2]
      omega
theorem f_ones {N : Nat} (hN : 10000000 ≤ N) {g : gp} {x0 : Int32} {δ : dp} (h0 : 0 ≤ x0.toInt) (h1 : x0.toInt < 65536) : ok (D_X12_ones N g x0 δ) (fun r => r.2 = δ ∧ r.1.toInt = (pc 16 (un x0) : Int)) := by
  have hp := pc_le 16 (un x0)
  have e0 : (0 : Int32).toInt = 0 := rfl
  unfold D_X12_ones
  refine ok_mono (fl_ones N 0 x0 δ h0 h1 (by decide) (by omega) (by omega)) (fun r hr => ⟨hr.1, ?_⟩)
  rw [hr.2]; omega
/-- what touchSet answers -/
def tvf (N : Nat) (g : gp) (a0 : Nat) (δs : dp) (c x s : Int32) : Int32 := match D_X12_touchSet N g a0 c x s δs with
  | some r => r.1
  | none => 0
theorem v_touchSet {ad : List Nat} {h : hp} (L : Lay TLx ad h) {δ0 : dp} {N : Nat} (hN : 10000000 ≤ N) {a0 : Nat} {c x s : Int32} (k_a0 : q_K h.1 a0 = 12) (c0 : 0 ≤ c.toInt) (c4 : c.toInt ≤ 4) {δs δ : dp} (I : RI ad h.1 δ0 δs) (J : RI ad h.1 δ0 δ) (e10 : q_I δ 12 10 a0 = q_I δs 12 10 a0) (e11 : q_I δ 12 11 a0 = q_I δs 12 11 a0) (e12 : q_I δ 12 12 a0 = q_I δs 12 12 a0) : ok (D_X12_touchSet N h.1 a0 c x s δ) (fun r => r.1 = tvf N h.1 a0 δs c x s) := by
  obtain ⟨b35, o35, _, n35, _⟩ := gO_12_35 L k_a0
  have hw := cb_12_10 I k_a0
  have he := cb_12_11 I k_a0
  obtain ⟨rs, h1, _, h2⟩ := ok_hs (k_X12_touchSet L hN (x1 := c) (x2 := x) (x3 := s) k_a0 I) (r_touchSet (N := N) (x1 := c) (x2 := x) (x3 := s) (δ := δs) (E := (q_I δs 12 11 a0).toInt.toNat) (w := (q_I δs 12 10 a0).toInt.toNat) o35 n35 (by omega) (by omega) (by omega) (by omega) (by omega) c0 c4)
  obtain ⟨r, g1, _, g2⟩ := ok_hs (k_X12_touchSet L hN (x1 := c) (x2 := x) (x3 := s) k_a0 J) (r_touchSet (N := N) (x1 := c) (x2 := x) (x3 := s) (δ := δ) (E := (q_I δs 12 11 a0).toInt.toNat) (w := (q_I δs 12 10 a0).toInt.toNat) o35 n35 (by omega) (by rw [e11]; omega) (by rw [e10]; omega) (by omega) (by omega) c0 c4)
  refine ⟨r, g1, ?_⟩
  unfold tvf
  rw [h1]
  rw [e12] at g2
  exact i_eq (g2.trans h2.symm)
/-- a state of the search -/
def FE (ad : List Nat) (g : gp) (δ0 δs δ : dp) : Prop := RI ad g δ0 δ ∧ kp [(12, 36), (12, 45)] δs δ ∧ q_V δ = q_V δs ∧ kr ad [119, 122, 123] δs δ
theorem fe_ts {ad : List Nat} {h : hp} (L : Lay TLx ad h) {δ0 : dp} {N : Nat} (hN : 10000000 ≤ N) {a0 : Nat} {c x s : Int32} (k_a0 : q_K h.1 a0 = 12) (c0 : 0 ≤ c.toInt) (c4 : c.toInt ≤ 4) {δs δ : dp} (I : RI ad h.1 δ0 δs) (F : FE ad h.1 δ0 δs δ) : ok (D_X12_touchSet N h.1 a0 c x s δ) (fun r => r.1 = tvf N h.1 a0 δs c x s ∧ 1 ≤ r.1.toInt ∧ r.1.toInt ≤ 61 ∧ FE ad h.1 δ0 δs r.2 ∧ q_R r.2 (Ad ad 122) = q_R δ (Ad ad 122)) := by
  obtain ⟨f1, f2, f3, f4⟩ := F
  refine ok_mono (ok_and (k_X12_touchSet L hN (x1 := c) (x2 := x) (x3 := s) k_a0 f1) (v_touchSet L hN (c := c) (x := x) (s := s) k_a0 c0 c4 I f1 (f2 12 10 a0 (by decide)) (f2 12 11 a0 (by decide)) (f2 12 12 a0 (by decide)))) (fun r hr => ?_)
  obtain ⟨⟨g1, ⟨g2, g3, g4⟩, g5, g6⟩, g7⟩ := hr
  exact ⟨g7, g5, g6, ⟨g1, kp_w (by decide) (kp_t f2 g2), g3.trans f3, kr_w (by decide) (kr_t f4 g4)⟩, g4 122 (by decide) (by decide) (by decide)⟩
theorem fe_w2 {ad : List Nat} {h : hp} (L : Lay TLx ad h) {δ0 δs δ d : dp} (F : FE ad h.1 δ0 δs δ) {i : Nat} {v : Int32} (e : d = s_R δ (Ad ad 122) i v) : FE ad h.1 δ0 δs d := by
  obtain ⟨f1, f2, f3, f4⟩ := F
  refine ⟨by rw [e]; exact RI.sR L f1 ⟨122, by decide, by decide, by decide, rfl⟩, kp_N f2 (by rw [e]; rfl), by rw [e]; exact f3, kr_w (by decide) (kr_s L (by decide) f4 e)⟩
theorem fe_w3 {ad : List Nat} {h : hp} (L : Lay TLx ad h) {δ0 δs δ d : dp} (F : FE ad h.1 δ0 δs δ) {i : Nat} {v : Int32} (e : d = s_R δ (Ad ad 123) i v) : FE ad h.1 δ0 δs d ∧ q_R d (Ad ad 122) = q_R δ (Ad ad 122) := by
  obtain ⟨f1, f2, f3, f4⟩ := F
  refine ⟨⟨by rw [e]; exact RI.sR L f1 ⟨123, by decide, by decide, by decide, rfl⟩, kp_N f2 (by rw [e]; rfl), by rw [e]; exact f3, kr_w (by decide) (kr_s L (by decide) f4 e)⟩, ?_⟩
  rw [e, rR_o (ad_ne L (by decide) (by decide) (by decide))]
theorem fe_w5 {ad : List Nat} {h : hp} (L : Lay TLx ad h) {δ0 δs δ d : dp} (F : FE ad h.1 δ0 δs δ) {a0 : Nat} {v : Int32} (e : d = s_I δ 12 45 a0 v) : FE ad h.1 δ0 δs d ∧ q_R d (Ad ad 122) = q_R δ (Ad ad 122) := by
  obtain ⟨f1, f2, f3, f4⟩ := F
  have b := ti_b v
  refine ⟨⟨by rw [e]; exact RI.sI L f1 b.1 b.2, kp_w (by decide) (kp_I f2 e), by rw [e]; exact f3, kr_N f4 (by rw [e]; rfl)⟩, by rw [e]; rfl⟩
theorem fe_all {ad : List Nat} {g : gp} {N : Nat} {a0 : Nat} {δ0 δs δ : dp} (F : FE ad g δ0 δs δ) : D_X12_all N g a0 δ = some ((1 : Int32) <<< (q_I δs 12 10 a0 &&& 31), δ) := by
  unfold D_X12_all
  rw [F.2.1 12 10 a0 (by decide)]
theorem qx {a : Nat} (ha : a = 4 ∨ a = 8 ∨ a = 16) {A q : Int32} (hA : A.toInt = (a : Int)) (q0 : 0 ≤ q.toInt) (q1 : q.toInt ≤ 5 * (a : Int)) : 0 ≤ (q - q / A * A).toInt ∧ (q - q / A * A).toInt < (a : Int) := by
  have hd := ti_div (c := A) (n := a) hA (by omega) q q0
  have hm := te_mulr (c := A) (n := (a : Int)) hA (q / A) (by rw [hd]; rcases ha with rfl | rfl | rfl <;> omega) (by rw [hd]; rcases ha with rfl | rfl | rfl <;> omega)
  have hs := te_sub q (q / A * A) (by rw [hm.1, hd]; rcases ha with rfl | rfl | rfl <;> omega) (by rw [hm.1, hd]; rcases ha with rfl | rfl | rfl <;> omega)
  rw [hs.1, hm.1, hd]
  rcases ha with rfl | rfl | rfl <;> omega
theorem qc4 {a : Nat} (ha : a = 4 ∨ a = 8 ∨ a = 16) {A q : Int32} (hA : A.toInt = (a : Int)) (q0 : 0 ≤ q.toInt) (q1 : q.toInt < 5 * (a : Int)) : 0 ≤ (q / A).toInt ∧ (q / A).toInt ≤ 4 := by
  have hd := ti_div (c := A) (n := a) hA (by omega) q q0
  rw [hd]
  rcases ha with rfl | rfl | rfl <;> omega
/-- a call's touches, and those of the best row behind it -/
def fV (tv : Int32 → Int32 → Int32 → Int32) (A : Int32) (ρ : Nat → Int32) (l : Nat) (q s : Int32) : Int := (tv (q / A) (q - q / A * A) s).toInt + (ρ (65536 * (l - 1) + (bh (q / A) (q - q / A * A) s).toInt.toNat)).toInt
def fG (tv : Int32 → Int32 → Int32 → Int32) (A : Int32) (a : Nat) (ρ : Nat → Int32) (l : Nat) (s : Int32) : Prop := 0 ≤ (ρ (65536 * l + s.toInt.toNat)).toInt ∧ (ρ (65536 * l + s.toInt.toNat)).toInt ≤ 61 * (l : Int) ∧ (1 ≤ l → ∃ q : Int32, 0 ≤ q.toInt ∧ q.toInt < 5 * (a : Int) ∧ fV tv A ρ l q s = (ρ (65536 * l + s.toInt.toNat)).toInt)
def fT (tv : Int32 → Int32 → Int32 → Int32) (A : Int32) (a : Nat) (ρ : Nat → Int32) (n l : Nat) : Prop := ∀ l', l' ≤ l → ∀ s : Int32, 0 ≤ s.toInt → s.toInt < ((2 ^ a : Nat) : Int) → pc 16 (un s) + l' ≤ n → fG tv A a ρ l' s
theorem fG_c {tv : Int32 → Int32 → Int32 → Int32} {A : Int32} {a : Nat} (ha : a = 4 ∨ a = 8 ∨ a = 16) (hA : A.toInt = (a : Int)) {ρ ρ' : Nat → Int32} {l : Nat} {s : Int32} (s0 : 0 ≤ s.toInt) (s1 : s.toInt < ((2 ^ a : Nat) : Int)) (h1 : ∀ i, i < 65536 * l → ρ' i = ρ i) (h2 : ρ' (65536 * l + s.toInt.toNat) = ρ (65536 * l + s.toInt.toNat)) (G : fG tv A a ρ l s) : fG tv A a ρ' l s := by
  obtain ⟨g1, g2, g3⟩ := G
  unfold fG
  rw [h2]
  refine ⟨g1, g2, fun hl => ?_⟩
  obtain ⟨q, q0, q1, q2⟩ := g3 hl
  refine ⟨q, q0, q1, ?_⟩
  have hx := qx ha hA q0 (by omega)
  have hb := bh_r (a := a) (by omega) (q / A) s0 s1 hx.1 hx.2
  have hp : 2 ^ a ≤ 65536 := by rcases ha with rfl | rfl | rfl <;> decide
  rw [← q2]
  unfold fV
  rw [h1 _ (by omega)]
theorem fT_c {tv : Int32 → Int32 → Int32 → Int32} {A : Int32} {a : Nat} (ha : a = 4 ∨ a = 8 ∨ a = 16) (hA : A.toInt = (a : Int)) {ρ ρ' : Nat → Int32} {n l : Nat} (h1 : ∀ i, i < 65536 * (l + 1) → ρ' i = ρ i) (T : fT tv A a ρ n l) : fT tv A a ρ' n l := by
  intro l' hl s s0 s1 hp
  have hq : 2 ^ a ≤ 65536 := by rcases ha with rfl | rfl | rfl <;> decide
  exact fG_c ha hA s0 s1 (fun i hi => h1 i (by omega)) (h1 _ (by omega)) (T l' hl s s0 s1 hp)
end
section
/-! the table is filled -/
theorem fV_b {tv : Int32 → Int32 → Int32 → Int32} {A : Int32} {a : Nat} (ha : a = 4 ∨ a = 8 ∨ a = 16) (hA : A.toInt = (a : Int)) {ρ : Nat → Int32} {n l : Nat} (hl : 1 ≤ l) (T : fT tv A a ρ n (l - 1)) {q s : Int32} (s0 : 0 ≤ s.toInt) (s1 : s.toInt < ((2 ^ a : Nat) : Int)) (hp : pc 16 (un s) + l ≤ n) (q0 : 0 ≤ q.toInt) (q1 : q.toInt ≤ 5 * (a : Int)) : 0 ≤ (ρ (65536 * (l - 1) + (bh (q / A) (q - q / A * A) s).toInt.toNat)).toInt ∧ (ρ (65536 * (l - 1) + (bh (q / A) (q - q / A * A) s).toInt.toNat)).toInt ≤ 61 * (l : Int) - 61 := by
  have hx := qx ha hA q0 q1
  have hb := bh_r (a := a) (by omega) (q / A) s0 s1 hx.1 hx.2
  have G := T (l - 1) (Nat.le_refl _) (bh (q / A) (q - q / A * A) s) hb.1 hb.2.1 (by omega)
  exact ⟨G.1, by have := G.2.1; omega⟩
set_option maxHeartbeats 4000000 in
theorem fl_63 {ad : List Nat} {h : hp} (L : Lay TLx ad h) {δ0 : dp} {N : Nat} (hN : 10000000 ≤ N) {a0 : Nat} (k_a0 : q_K h.1 a0 = 12) {δs : dp} (I : RI ad h.1 δ0 δs) {a : Nat} (ha : a = 4 ∨ a = 8 ∨ a = 16) (hA : ((1 : Int32) <<< (q_I δs 12 10 a0 &&& 31)).toInt = (a : Int)) {nn l : Nat} (hn : nn ≤ 6) (hl : 1 ≤ l) (hln : l ≤ nn) {x1 x2v x3v x4v : Int32} {kt29 : Int32 → Int32 → dp → Option (dp)} {kt37 : Int32 → Int32 → Int32 → dp → Option (dp)} {Q : dp → Prop} (e3 : x3v.toInt = (l : Int)) (s0 : 0 ≤ x4v.toInt) (s1 : x4v.toInt < ((2 ^ a : Nat) : Int)) (hp : pc 16 (un x4v) + l ≤ nn)
    (hk : ∀ δ' x, x.toInt = x4v.toInt + 1 → FE ad h.1 δ0 δs δ' → fT (tvf N h.1 a0 δs) ((1 : Int32) <<< (q_I δs 12 10 a0 &&& 31)) a (q_R δ' (Ad ad 122)) nn (l - 1) → (∀ s : Int32, 0 ≤ s.toInt → s.toInt < x4v.toInt + 1 → pc 16 (un s) + l ≤ nn → fG (tvf N h.1 a0 δs) ((1 : Int32) <<< (q_I δs 12 10 a0 &&& 31)) a (q_R δ' (Ad ad 122)) l s) → ok (kt37 x2v x3v x δ') Q) :
    ∀ (n : Nat) (x5v x6v : Int32) (δ : dp), FE ad h.1 δ0 δs δ → fT (tvf N h.1 a0 δs) ((1 : Int32) <<< (q_I δs 12 10 a0 &&& 31)) a (q_R δ (Ad ad 122)) nn (l - 1) → (∀ s : Int32, 0 ≤ s.toInt → s.toInt < x4v.toInt → pc 16 (un s) + l ≤ nn → fG (tvf N h.1 a0 δs) ((1 : Int32) <<< (q_I δs 12 10 a0 &&& 31)) a (q_R δ (Ad ad 122)) l s) → 0 ≤ x5v.toInt → x5v.toInt ≤ 61 * (l : Int) → 0 ≤ x6v.toInt → x6v.toInt ≤ 5 * (a : Int) → (x6v.toInt = 0 ∧ x5v.toInt = 0 ∨ ∃ q : Int32, 0 ≤ q.toInt ∧ q.toInt < x6v.toInt ∧ fV (tvf N h.1 a0 δs) ((1 : Int32) <<< (q_I δs 12 10 a0 &&& 31)) (q_R δ (Ad ad 122)) l q x4v = x5v.toInt) → 5 * (a : Int) - x6v.toInt < (n : Int) → ok (L_X12_findRow_63 N h.1 a0 x1 kt29 kt37 n x2v x3v x4v x5v x6v δ) Q := by
  obtain ⟨b1, o1, _, n1, _⟩ := gO_12_43 L k_a0
  obtain rfl := gS_12_43 L k_a0 o1
  have hp2 : 2 ^ a ≤ 65536 := by rcases ha with rfl | rfl | rfl <;> decide
  have ha16 : a ≤ 16 := by omega
  have hA0 : ¬ ((1 : Int32) <<< (q_I δs 12 10 a0 &&& 31)) = 0 := fun z => by
    have z1 := o_eq z
    have z0 : (0 : Int32).toInt = 0 := rfl
    omega
  have z0 : (0 : Int32).toInt = 0 := rfl
  intro n
  induction n with
  | zero => intro x5v x6v δ F T P m0 m1 q0 q1 at' hm; exfalso; omega
  | succ n ih =>
    intro x5v x6v δ F T P m0 m1 q0 q1 at' hm
    unfold L_X12_findRow_63
    refine ok_at (fe_all F) ?_
    dsimp only
    have h5 := te_mulc (c := 5) (n := 5) rfl ((1 : Int32) <<< (q_I δs 12 10 a0 &&& 31)) (by omega) (by omega)
    refine ok_ite (fun c => ?_) (fun c => ?_)
    · have c1 := o_le c
      refine ok_at o1 ?_
      have i1 := te_mulc (c := 65536) (n := 65536) rfl x3v (by omega) (by omega)
      have i2 := te_add ((65536 : Int32) * x3v) x4v (by omega) (by omega)
      have i3 := ti_tn (((65536 : Int32) * x3v) + x4v)
      refine ok_gd (fun z => ?_) ?_
      · rcases z with z | z
        · have := o_lt z; omega
        · rw [n1] at z; omega
      refine ok_bdv (fun d e => ?_)
      unfold J_X12_findRow_167
      refine ok_biv (fun x ex => ?_)
      have hx := te_addc (c := 1) (n := 1) rfl x4v (by omega) (by omega)
      rw [← ex] at hx
      have hix : (((65536 : Int32) * x3v) + x4v).toNatClampNeg = 65536 * l + x4v.toInt.toNat := by omega
      have hw : ∀ i, q_R d (Ad ad 122) i = if i = 65536 * l + x4v.toInt.toNat then x5v else q_R δ (Ad ad 122) i := by
        intro i
        rw [e, qR_sR, hix]
        by_cases c : i = 65536 * l + x4v.toInt.toNat
        · rw [if_pos ⟨rfl, c⟩, if_pos c]
        · rw [if_neg (fun z => c z.2), if_neg c]
      refine hk d x (by omega) (fe_w2 L F e) (fT_c ha hA (fun i hi => ?_) T) (fun s t0 t1 tp => ?_)
      · rw [hw, if_neg (by omega)]
      · by_cases cs : s.toInt = x4v.toInt
        · have : s = x4v := i_eq cs
          subst this
          unfold fG
          rw [hw, if_pos rfl]
          refine ⟨m0, m1, fun _ => ?_⟩
          rcases at' with at' | at'
          · exfalso; omega
          · obtain ⟨q, r0, r1, r2⟩ := at'
            refine ⟨q, r0, by omega, ?_⟩
            rw [← r2]
            have hqx := qx ha hA r0 (by omega)
            have hb := bh_r (a := a) ha16 (q / ((1 : Int32) <<< (q_I δs 12 10 a0 &&& 31))) s0 s1 hqx.1 hqx.2
            unfold fV
            rw [hw, if_neg (by omega)]
        · exact fG_c ha hA t0 (by omega) (fun i hi => by rw [hw, if_neg (by omega)]) (by rw [hw, if_neg (by omega)]) (P s t0 (by omega) tp)
    · have c1 := o_nle c
      refine ok_at (fe_all F) ?_
      dsimp only
      refine ok_gd hA0 ?_
      refine ok_at (fe_all F) ?_
      dsimp only
      refine ok_gd hA0 ?_
      refine ok_bind (fe_ts L hN (c := x6v / ((1 : Int32) <<< (q_I δs 12 10 a0 &&& 31))) (x := x6v - x6v / ((1 : Int32) <<< (q_I δs 12 10 a0 &&& 31)) * ((1 : Int32) <<< (q_I δs 12 10 a0 &&& 31))) (s := x4v) k_a0 (qc4 ha hA q0 (by omega)).1 (qc4 ha hA q0 (by omega)).2 I F) (fun r hr => ?_)
      obtain ⟨v1, v2, v3, F2, fr⟩ := hr
      refine ok_at o1 ?_
      refine ok_at (fe_all F2) ?_
      dsimp only
      refine ok_gd hA0 ?_
      refine ok_at (fe_all F2) ?_
      dsimp only
      refine ok_gd hA0 ?_
      refine ok_at behind_eq ?_
      dsimp only
      have hqx := qx ha hA q0 (by omega)
      have hb := bh_r (a := a) ha16 (x6v / ((1 : Int32) <<< (q_I δs 12 10 a0 &&& 31))) s0 s1 hqx.1 hqx.2
      have hv := fV_b ha hA hl T s0 s1 hp q0 (by omega)
      have i0 := te_subc (c := 1) (n := 1) rfl x3v (by omega) (by omega)
      have i1 := te_mulc (c := 65536) (n := 65536) rfl (x3v - 1) (by omega) (by omega)
      have i2 := te_add ((65536 : Int32) * (x3v - 1)) (bh (x6v / ((1 : Int32) <<< (q_I δs 12 10 a0 &&& 31))) (x6v - x6v / ((1 : Int32) <<< (q_I δs 12 10 a0 &&& 31)) * ((1 : Int32) <<< (q_I δs 12 10 a0 &&& 31))) x4v) (by omega) (by omega)
      have i3 := ti_tn (((65536 : Int32) * (x3v - 1)) + (bh (x6v / ((1 : Int32) <<< (q_I δs 12 10 a0 &&& 31))) (x6v - x6v / ((1 : Int32) <<< (q_I δs 12 10 a0 &&& 31)) * ((1 : Int32) <<< (q_I δs 12 10 a0 &&& 31))) x4v))
      refine ok_gd (fun z => ?_) ?_
      · rcases z with z | z
        · have := o_lt z; omega
        · rw [n1] at z; omega
      have hix : (((65536 : Int32) * (x3v - 1)) + (bh (x6v / ((1 : Int32) <<< (q_I δs 12 10 a0 &&& 31))) (x6v - x6v / ((1 : Int32) <<< (q_I δs 12 10 a0 &&& 31)) * ((1 : Int32) <<< (q_I δs 12 10 a0 &&& 31))) x4v)).toNatClampNeg = 65536 * (l - 1) + (bh (x6v / ((1 : Int32) <<< (q_I δs 12 10 a0 &&& 31))) (x6v - x6v / ((1 : Int32) <<< (q_I δs 12 10 a0 &&& 31)) * ((1 : Int32) <<< (q_I δs 12 10 a0 &&& 31))) x4v).toInt.toNat := by omega
      refine ok_biv (fun y ey => ?_)
      rw [hix, fr] at ey
      have hy := te_add r.1 (q_R δ (Ad ad 122) (65536 * (l - 1) + (bh (x6v / ((1 : Int32) <<< (q_I δs 12 10 a0 &&& 31))) (x6v - x6v / ((1 : Int32) <<< (q_I δs 12 10 a0 &&& 31)) * ((1 : Int32) <<< (q_I δs 12 10 a0 &&& 31))) x4v).toInt.toNat)) (by omega) (by omega)
      rw [← ey] at hy
      have hyV : fV (tvf N h.1 a0 δs) ((1 : Int32) <<< (q_I δs 12 10 a0 &&& 31)) (q_R r.2 (Ad ad 122)) l x6v x4v = y.toInt := by
        unfold fV
        rw [fr, ← v1]
        omega
      have T2 : fT (tvf N h.1 a0 δs) ((1 : Int32) <<< (q_I δs 12 10 a0 &&& 31)) a (q_R r.2 (Ad ad 122)) nn (l - 1) := by rw [fr]; exact T
      have P2 : ∀ s : Int32, 0 ≤ s.toInt → s.toInt < x4v.toInt → pc 16 (un s) + l ≤ nn → fG (tvf N h.1 a0 δs) ((1 : Int32) <<< (q_I δs 12 10 a0 &&& 31)) a (q_R r.2 (Ad ad 122)) l s := by rw [fr]; exact P
      have hx := te_addc (c := 1) (n := 1) rfl x6v (by omega) (by omega)
      refine ok_ite (fun c => ?_) (fun c => ?_)
      · have c2 := o_le c
        unfold J_X12_findRow_144
        refine ok_biv (fun x ex => ?_)
        rw [← ex] at hx
        refine ih x5v x r.2 F2 T2 P2 m0 m1 (by omega) (by omega) (Or.inr ?_) (by omega)
        rcases at' with at' | at'
        · exfalso; omega
        · obtain ⟨q, r0, r1, r2⟩ := at'
          exact ⟨q, r0, by omega, by rw [fr]; exact r2⟩
      · have c2 := o_nle c
        unfold J_X12_findRow_144
        refine ok_biv (fun x ex => ?_)
        rw [← ex] at hx
        exact ih y x r.2 F2 T2 P2 (by omega) (by omega) (by omega) (by omega) (Or.inr ⟨x6v, q0, by omega, hyV⟩) (by omega)
end
