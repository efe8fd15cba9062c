/-! next and before of the reference -/
section
variable {N : Nat} {g : gp} {a0 b E : Nat} {lw : Nat → Nat} {T : Nat → Int32 → Int32 → Int32 → Int32 → Int32 → dp → Option (Int32 × dp)} {n : Nat}
/-- next, before -/
theorem r_158 (hO : q_O g 12 35 a0 = some b) (hN : q_N g b = 14000) (TO : TOk a0 b E lw T n) (n20 : n ≤ 20) {x1 x2 x3 x4 x5 : Int32} {δ : dp} {w a e : Nat} (S : TS a0 b E lw δ w a e x3 x4 x5) (w2 : 2 ≤ w) (wn : w ≤ n + 1) (ae : a < e) (c34 : 3 ≤ x1.toInt) (c44 : x1.toInt ≤ 4) (x0 : 0 ≤ x2.toInt) (la : ((mR δ b a).toNat : Int) ≤ x2.toInt) (ga : x2.toInt ≤ ((mR δ b (e - 1)).toNat : Int)) (n3 : Imp (x1.toInt = 3) (x2.toInt < ((mR δ b (e - 1)).toNat : Int))) (n4 : Imp (x1.toInt = 4) (((mR δ b a).toNat : Int) < x2.toInt)) {V : Int} (hV : V = TB x1.toInt x2.toInt (DS (mR δ b) (a + 1) (e - 1)) (mR δ b a).toNat (mR δ b (e - 1)).toNat (2 ^ lw w) (tR E lw n x1.toInt w (DS (mR δ b) (a + 1) (e - 1))) (tL E lw n x1.toInt w (DS (mR δ b) (a + 1) (e - 1)))) : hs (J_X12_touch_158 N g T a0 x1 x2 x3 x4 x5 0 δ) (TP a0 b e δ V) := by
  have z0 : (0 : Int32).toInt = 0 := rfl
  have z1 : (1 : Int32).toInt = 1 := rfl
  have z2 : (2 : Int32).toInt = 2 := rfl
  have z3 : (3 : Int32).toInt = 3 := rfl
  obtain ⟨s1, s2, s3, s4, s5, s6, s7, s8, s9, s10⟩ := id S
  have lb := lwf_b (m := q_I δ 12 12 a0) w2
  rw [s6] at lb
  have GI : RG (mR δ b) (a + 1) (e - 1) w := s9.s (by omega) (by omega)
  have emI : Emp (DS (mR δ b) (a + 1) (e - 1)) ↔ e - 1 ≤ a + 1 := ⟨DS_n GI, DS_0⟩
  have t5 := te_sub x5 x4 (by omega) (by omega)
  have hy : x2.toInt = ((x2.toInt.toNat : Nat) : Int) := by omega
  generalize hva : (mR δ b a).toNat = va at *
  generalize hvb : (mR δ b (e - 1)).toNat = vb at *
  unfold TB at hV
  rw [if_neg (by omega), if_neg (by omega)] at hV
  unfold J_X12_touch_158 J_X12_touch_174
  refine hs_ite (fun _ => hs_ite (fun c => ?_) (fun c => ?_)) (fun z => absurd rfl z)
  rotate_left
  · have c1 := o_nle c
    refine TP_s s4 ?_
    have em := emI.mpr (by omega)
    rcases (show x1.toInt = 3 ∨ x1.toInt = 4 by omega) with c3 | c3
    · rw [if_pos c3] at hV
      unfold TBn at hV
      rw [ic_t (Or.inr (Or.inr em))] at hV
      rw [hV]; rfl
    · rw [if_neg (by omega), if_pos c3] at hV
      unfold TBb at hV
      rw [ic_t (Or.inr (Or.inr em))] at hV
      rw [hV]; rfl
  have c1 := o_le c
  have ii : a + 1 < e - 1 := by omega
  have nem : ¬ Emp (DS (mR δ b) (a + 1) (e - 1)) := fun z => by have := emI.mp z; omega
  -- what the answer is, by the room
  have LA := DS_l GI ii
  have GA := DS_g GI ii
  have rb := tR_b (E := E) (lw := lw) (n := n) (c := x1.toInt) (w := w) (I := DS (mR δ b) (a + 1) (e - 1)) (y := x2.toInt.toNat)
  have lb2 := tL_b (E := E) (lw := lw) (n := n) (c := x1.toInt) (w := w) (I := DS (mR δ b) (a + 1) (e - 1)) (y := x2.toInt.toNat)
  have t1 := te_addc (c := 1) (n := 1) rfl x4 (by omega) (by omega)
  have i1 : (x4 + 1).toNatClampNeg = a + 1 := by have := ti_tn (x4 + 1); omega
  clear t1
  have t2 := te_subc (c := 2) (n := 2) rfl x5 (by omega) (by omega)
  have i2 : (x5 - 2).toNatClampNeg = e - 1 - 1 := by have := ti_tn (x5 - 2); omega
  clear t2
  have ek1 : (q_R δ b (a + 1)).toInt = (((mR δ b (a + 1)).toNat : Nat) : Int) := by have := (GI.2 (a + 1) (by omega) ii).1; show mR δ b (a + 1) = _; omega
  have ek2 : (q_R δ b (e - 1 - 1)).toInt = (((mR δ b (e - 1 - 1)).toNat : Nat) : Int) := by have := (GI.2 (e - 1 - 1) (by omega) (by omega)).1; show mR δ b (e - 1 - 1) = _; omega
  refine hs_bind (r_lower s1 s10) (fun r1 hr1 => ?_)
  obtain ⟨e1, v1⟩ := hr1
  rw [e1]
  rw [s6] at v1
  have sx := sr_i hy v1 (by omega)
  have sk1 := sr_i ek1 v1 (by omega)
  have sk2 := sr_i ek2 v1 (by omega)
  refine hs_bind (r_many hO hy s1 s2 s3 w2 s10 ae s8 s9) (fun r hr => ?_)
  obtain ⟨er, C⟩ := hr
  rw [er]
  rw [s6] at C
  have em := CN_e s9 (by omega) (by omega) C
  -- the list
  have lst : ∀ (xn : Int32), 1 ≤ xn.toInt → xn.toInt ≤ 2 → V = xn.toInt + (if x1.toInt = 3 then ic (∃ z, DS (mR δ b) (a + 1) (e - 1) z ∧ x2.toInt.toNat / 2 ^ lw w < z / 2 ^ lw w) 1 0 else ic (∃ z, DS (mR δ b) (a + 1) (e - 1) z ∧ z / 2 ^ lw w < x2.toInt.toNat / 2 ^ lw w) 1 0) + tL E lw n x1.toInt w (DS (mR δ b) (a + 1) (e - 1)) x2.toInt.toNat → hs (J_X12_touch_267 N g T a0 x1 x2 x3 x4 x5 xn r1.1 δ) (TP a0 b e δ V) := fun xn hn1 hn2 hv => by
    have fin : ∀ (xs : Int32), xs.toInt = 0 ∨ xs.toInt = 1 → (xs.toInt = 0 → V = xn.toInt + tL E lw n x1.toInt w (DS (mR δ b) (a + 1) (e - 1)) x2.toInt.toNat) → (xs.toInt = 1 → V = xn.toInt + tL E lw n x1.toInt w (DS (mR δ b) (a + 1) (e - 1)) x2.toInt.toNat + 1) → hs (J_X12_touch_323 N g T a0 x1 x2 x3 x4 x5 xs xn δ) (TP a0 b e δ V) := fun xs hxs f0 f1 => by
      unfold J_X12_touch_323 J_X12_touch_349
      refine hs_bind (r_inList hO hN TO S w2 wn ae (by omega) (by omega) hy) (fun q hq => ?_)
      obtain ⟨h1, h2, h3, h4⟩ := hq
      have h1' : q.1.toInt = tL E lw n x1.toInt w (DS (mR δ b) (a + 1) (e - 1)) x2.toInt.toNat := h1
      have t := te_add xn q.1 (by omega) (by omega)
      refine hs_ite (fun z => hs_some ⟨?_, h2, h3, h4⟩) (fun z => hs_some ⟨?_, h2, h3, h4⟩)
      · have g0 := f0 (by have := o_eq z; omega)
        show (xn + q.1 + 0).toInt = V
        rw [Int32.add_zero]
        omega
      · have g1 := f1 (by rcases hxs with k | k; exact absurd (i_eq k) z; exact k)
        have t' := te_addc (c := 1) (n := 1) rfl (xn + q.1) (by omega) (by omega)
        show (xn + q.1 + 1).toInt = V
        omega
    unfold J_X12_touch_267
    refine hs_ite (fun c4 => ?_) (fun c4 => ?_)
    · have c5 : x1.toInt = 3 := o_eq c4
      rw [if_pos c5] at hv
      refine hs_at hO (hs_gd (fun _ => ?_))
      rw [i2]
      refine hs_ite (fun c6 => ?_) (fun c6 => ?_)
      · have c7 := o_le c6
        rw [ic_f (fun ⟨z, hz, lt⟩ => by
          have := Nat.div_le_div_right (c := 2 ^ lw w) (GA.2 z hz)
          omega)] at hv
        exact fin 0 (Or.inl rfl) (fun _ => by omega) (fun z => absurd z (by decide))
      · have c7 := o_nle c6
        rw [ic_t ⟨_, GA.1, by omega⟩] at hv
        exact fin 1 (Or.inr rfl) (fun z => absurd z (by decide)) (fun _ => by omega)
    · have c5 : x1.toInt ≠ 3 := o_ne c4
      rw [if_neg c5] at hv
      refine hs_at hO (hs_gd (fun _ => ?_))
      rw [i1]
      refine hs_ite (fun c6 => ?_) (fun c6 => ?_)
      · have c7 := o_le c6
        rw [ic_f (fun ⟨z, hz, lt⟩ => by
          have := Nat.div_le_div_right (c := 2 ^ lw w) (LA.2 z hz)
          omega)] at hv
        exact fin 0 (Or.inl rfl) (fun _ => by omega) (fun z => absurd z (by decide))
      · have c7 := o_nle c6
        rw [ic_t ⟨_, LA.1, by omega⟩] at hv
        exact fin 1 (Or.inr rfl) (fun z => absurd z (by decide)) (fun _ => by omega)
  refine hs_ite (fun c6 => ?_) (fun c6 => ?_)
  · have c7 := o_le c6
    have ee := em.1.mp (by omega)
    refine lst 1 (by decide) (by decide) ?_
    rcases (show x1.toInt = 3 ∨ x1.toInt = 4 by omega) with c3 | c3
    · rw [if_pos c3] at hV ⊢
      unfold TBn at hV
      rw [ic_f (fun z => by have := n3 c3; rcases z with z | z | z; omega; omega; exact nem z), ic_f (fun ⟨v, hv, _⟩ => ee v hv.1), ic_t ee] at hV
      rw [hV]; rfl
    · rw [if_neg (by omega), if_pos c3] at hV
      rw [if_neg (by omega)]
      unfold TBb at hV
      rw [ic_f (fun z => by have := n4 c3; rcases z with z | z | z; omega; omega; exact nem z), ic_f (fun ⟨v, hv, _⟩ => ee v hv.1), ic_t ee] at hV
      rw [hV]; rfl
  have c7 := o_nle c6
  have ne : ¬ Emp (Roo (DS (mR δ b) (a + 1) (e - 1)) (2 ^ lw w) (x2.toInt.toNat / 2 ^ lw w)) := fun z => by have := em.1.mpr z; omega
  refine hs_biv (fun u2 eu2 => hs_biv (fun lo elo => ?_))
  have hu2 : u2.toInt = 2 := by rw [eu2]; rfl
  have hlo : lo.toInt = ((x2.toInt.toNat % 2 ^ lw w : Nat) : Int) := by rw [elo]; exact ms_i hy v1 (by omega)
  clear eu2 elo
  have room : V = 2 + tR E lw n x1.toInt w (DS (mR δ b) (a + 1) (e - 1)) x2.toInt.toNat → hs (J_X12_touch_252 N g T a0 x1 x2 x3 x4 x5 u2 δ) (TP a0 b e δ V) := fun hv => by
    unfold J_X12_touch_252
    refine hs_bind (r_inRoom hO hN TO S w2 wn ae (by omega) (by omega) hy) (fun q hq => ?_)
    obtain ⟨h1, h2, h3, h4⟩ := hq
    have h1' : q.1.toInt = tR E lw n x1.toInt w (DS (mR δ b) (a + 1) (e - 1)) x2.toInt.toNat := h1
    have t := te_add u2 q.1 (by omega) (by omega)
    exact hs_some ⟨by show (u2 + q.1).toInt = V; omega, h2, h3, h4⟩
  have ne' := ne
  rw [← s6] at ne'
  refine hs_ite (fun c4 => ?_) (fun c4 => ?_)
  · have c5 : x1.toInt = 3 := o_eq c4
    have n3' := n3 c5
    rw [if_pos c5] at hV
    unfold TBn at hV
    rw [ic_f (fun z => by rcases z with z | z | z; omega; omega; exact nem z)] at hV
    refine hs_bind (r_end hO hy s1 s2 s3 w2 s10 ae s8 s9 ne') (fun q hq => ?_)
    obtain ⟨eq, v, hv, _, hg⟩ := hq
    have G := hg rfl
    rw [s6] at G
    rw [eq]
    refine hs_ite (fun c8 => ?_) (fun c8 => ?_)
    · have c9 := o_le c8
      rw [ic_f (fun ⟨v', hv', lt⟩ => by have := Gst_u hv' G; omega), ic_f ne] at hV
      refine lst u2 (by omega) (by omega) ?_
      rw [if_pos c5, hV]
      omega
    · have c9 := o_nle c8
      rw [ic_t ⟨v, G, by omega⟩] at hV
      exact room hV
  · have c5 : x1.toInt = 4 := by have : x1.toInt ≠ 3 := o_ne c4; omega
    have n4' := n4 c5
    rw [if_neg (by omega), if_pos c5] at hV
    unfold TBb at hV
    rw [ic_f (fun z => by rcases z with z | z | z; omega; omega; exact nem z)] at hV
    refine hs_bind (r_end hO hy s1 s2 s3 w2 s10 ae s8 s9 ne') (fun q hq => ?_)
    obtain ⟨eq, v, hv, hl, _⟩ := hq
    have G := hl (by decide)
    rw [s6] at G
    rw [eq]
    refine hs_ite (fun c8 => ?_) (fun c8 => ?_)
    · have c9 := o_le c8
      rw [ic_f (fun ⟨v', hv', lt⟩ => by have := Lst_u hv' G; omega), ic_f ne] at hV
      refine lst u2 (by omega) (by omega) ?_
      rw [if_neg (by omega), hV]
      omega
    · have c9 := o_nle c8
      rw [ic_t ⟨v, G, by omega⟩] at hV
      exact room hV
end
