/-! the reference's TOUCHES, level by level -/
/-- an implication that omega does not see -/
def Imp (p q : Prop) : Prop := p → q
def TS (a0 b E : Nat) (lw : Nat → Nat) (δ : dp) (w a e : Nat) (x3 x4 x5 : Int32) : Prop := x3.toInt = (w : Int) ∧ x4.toInt = (a : Int) ∧ x5.toInt = (e : Int) ∧ (q_I δ 12 36 a0).toInt = (e : Int) ∧ (q_I δ 12 11 a0).toInt = (E : Int) ∧ lwf (q_I δ 12 12 a0) = lw ∧ a ≤ e ∧ e ≤ 14000 ∧ RG (mR δ b) a e w ∧ w ≤ 16
def TP (a0 b e : Nat) (δ : dp) (v : Int) (r : Int32 × dp) : Prop := r.1.toInt = v ∧ kp [(12, 36)] δ r.2 ∧ (q_I r.2 12 36 a0).toInt = (e : Int) ∧ RFm b e δ r.2
def TOk (a0 b E : Nat) (lw : Nat → Nat) (T : Nat → Int32 → Int32 → Int32 → Int32 → Int32 → dp → Option (Int32 × dp)) (n : Nat) : Prop := ∀ (x1 x2 x3 x4 x5 : Int32) (δ : dp) (w a e : Nat), TS a0 b E lw δ w a e x3 x4 x5 → 1 ≤ w → w ≤ n → 0 ≤ x1.toInt → x1.toInt ≤ 4 → hs (T a0 x1 x2 x3 x4 x5 δ) (TP a0 b e δ (Tou E lw n x1.toInt x2.toInt w (DS (mR δ b) a e)))
theorem TP.c {a0 b e : Nat} {δ : dp} {v v' : Int} {r : Int32 × dp} (h : TP a0 b e δ v r) (q : v = v') : TP a0 b e δ v' r := by rw [← q]; exact h
theorem TP_s {a0 b e : Nat} {δ : dp} {v : Int} {k : Int32} (hT : (q_I δ 12 36 a0).toInt = (e : Int)) (hk : k.toInt = v) : hs (some (k, δ)) (TP a0 b e δ v) := hs_some ⟨hk, kp_w (by decide) kp_r, hT, RFm.r⟩
theorem TS_k {a0 b E : Nat} {lw : Nat → Nat} {δ d : dp} {w a e : Nat} {x3 x4 x5 : Int32} (S : TS a0 b E lw δ w a e x3 x4 x5) (k : kp [(12, 36)] δ d) (hT : (q_I d 12 36 a0).toInt = (e : Int)) (F : RFm b e δ d) : TS a0 b E lw d w a e x3 x4 x5 := by
  obtain ⟨s1, s2, s3, s4, s5, s6, s7, s8, s9, s10⟩ := S
  exact ⟨s1, s2, s3, hT, by rw [k 12 11 a0 (by decide)]; exact s5, by rw [k 12 12 a0 (by decide)]; exact s6, s7, s8, RG_c (fun i _ q => F.2 i q) s9, s10⟩
section
variable {N : Nat} {g : gp} {a0 b E : Nat} {lw : Nat → Nat} {T : Nat → Int32 → Int32 → Int32 → Int32 → Int32 → dp → Option (Int32 × dp)} {n : Nat}
theorem r_inList (hO : q_O g 12 35 a0 = some b) (hN : q_N g b = 14000) (TO : TOk a0 b E lw T n) {x1 x2 x3 x4 x5 : Int32} {δ : dp} {w a e y : Nat} (S : TS a0 b E lw δ w a e x3 x4 x5) (w2 : 2 ≤ w) (wn : w ≤ n + 1) (ae : a < e) (c0 : 0 ≤ x1.toInt) (c4 : x1.toInt ≤ 4) (hy : x2.toInt = (y : Int)) : hs (B_X12_inList N g T a0 x1 x2 x3 x4 x5 δ) (TP a0 b e δ (tL E lw n x1.toInt w (DS (mR δ b) (a + 1) (e - 1)) y)) := by
  obtain ⟨s1, s2, s3, s4, s5, s6, s7, s8, s9, s10⟩ := S
  have lb := lwf_b (m := q_I δ 12 12 a0) w2
  rw [s6] at lb
  unfold B_X12_inList
  refine hs_bind (r_lower s1 s10) (fun r1 hr1 => ?_)
  obtain ⟨e1, v1⟩ := hr1
  rw [e1]
  rw [s6] at v1
  refine hs_bind (r_lists hO hN s2 s3 v1 s4 (by omega) s10 ae s8 s9) (fun r2 hr2 => ?_)
  obtain ⟨g1, g2, g3, T', g4, g5, g6, g7, g8⟩ := hr2
  have ts := te_sub x3 r1.1 (by omega) (by omega)
  refine hs_bind (TO x1 (x2 >>> (r1.1 &&& 31)) (x3 - r1.1) r2.1 (q_I r2.2 12 36 a0) r2.2 (w - lw w) e T' ⟨by omega, g1, g4, g4, by rw [g2 12 11 a0 (by decide)]; exact s5, by rw [g2 12 12 a0 (by decide)]; exact s6, g5, g6, g7, by omega⟩ (by omega) (by omega) c0 c4) (fun r3 hr3 => ?_)
  obtain ⟨h1, h2, h3, h4⟩ := hr3
  refine hs_bdv (fun d4 e4 => hs_some ⟨?_, kp_w (by decide) (kp_I (kp_t g2 h2) e4), by rw [e4, rI_s]; exact g1, ?_⟩)
  · show r3.1.toInt = _
    rw [h1, sr_i hy v1 (by omega), g8]
    rfl
  · have F := g3.t h4 g5
    exact ⟨fun b' nb => by rw [e4]; exact F.1 b' nb, fun i hi => by rw [e4]; exact F.2 i hi⟩
theorem r_inRoom (hO : q_O g 12 35 a0 = some b) (hN : q_N g b = 14000) (TO : TOk a0 b E lw T n) {x1 x2 x3 x4 x5 : Int32} {δ : dp} {w a e y : Nat} (S : TS a0 b E lw δ w a e x3 x4 x5) (w2 : 2 ≤ w) (wn : w ≤ n + 1) (ae : a < e) (c0 : 0 ≤ x1.toInt) (c4 : x1.toInt ≤ 4) (hy : x2.toInt = (y : Int)) : hs (B_X12_inRoom N g T a0 x1 x2 x3 x4 x5 δ) (TP a0 b e δ (tR E lw n x1.toInt w (DS (mR δ b) (a + 1) (e - 1)) y)) := by
  obtain ⟨s1, s2, s3, s4, s5, s6, s7, s8, s9, s10⟩ := S
  have lb := lwf_b (m := q_I δ 12 12 a0) w2
  rw [s6] at lb
  unfold B_X12_inRoom
  refine hs_bind (r_lower s1 s10) (fun r1 hr1 => ?_)
  obtain ⟨e1, v1⟩ := hr1
  rw [e1]
  rw [s6] at v1
  refine hs_bind (r_rooms hO hN (u := y / 2 ^ lw w) s2 s3 v1 (sr_i hy v1 (by omega)) s4 (by omega) ae s8 s9) (fun r2 hr2 => ?_)
  obtain ⟨g1, g2, g3, T', g4, g5, g6, g7, g8⟩ := hr2
  refine hs_bind (TO x1 (x2 &&& (((1 : Int32) <<< (r1.1 &&& 31)) - (1 : Int32))) r1.1 r2.1 (q_I r2.2 12 36 a0) r2.2 (lw w) e T' ⟨v1, g1, g4, g4, by rw [g2 12 11 a0 (by decide)]; exact s5, by rw [g2 12 12 a0 (by decide)]; exact s6, g5, g6, g7, by omega⟩ (by omega) (by omega) c0 c4) (fun r3 hr3 => ?_)
  obtain ⟨h1, h2, h3, h4⟩ := hr3
  refine hs_bdv (fun d4 e4 => hs_some ⟨?_, kp_w (by decide) (kp_I (kp_t g2 h2) e4), by rw [e4, rI_s]; exact g1, ?_⟩)
  · show r3.1.toInt = _
    rw [h1, ms_i hy v1 (by omega), g8]
    rfl
  · have F := g3.t h4 g5
    exact ⟨fun b' nb => by rw [e4]; exact F.1 b' nb, fun i hi => by rw [e4]; exact F.2 i hi⟩
theorem r_put64 (hO : q_O g 12 35 a0 = some b) (hN : q_N g b = 14000) (TO : TOk a0 b E lw T n) (n20 : n ≤ 20) {x1 xs x2 x3 x4 : Int32} {δ : dp} {w a e y : Nat} (S : TS a0 b E lw δ w a e x2 x3 x4) (w2 : 2 ≤ w) (wn : w ≤ n + 1) (ae : a < e) (hy : xs.toInt = (y : Int)) {V : Int} (hV : V = ic (Emp (Roo (DS (mR δ b) (a + 1) (e - 1)) (2 ^ lw w) (y / 2 ^ lw w))) (2 + tL E lw n 0 w (DS (mR δ b) (a + 1) (e - 1)) y) (1 + tR E lw n 0 w (DS (mR δ b) (a + 1) (e - 1)) y)) : hs (J_X12_touchPut_64 N g T a0 x1 x2 x3 x4 xs δ) (TP a0 b e δ V) := by
  have z0 : (0 : Int32).toInt = 0 := rfl
  have z1 : (1 : Int32).toInt = 1 := rfl
  have z2 : (2 : Int32).toInt = 2 := rfl
  obtain ⟨s1, s2, s3, s4, s5, s6, s7, s8, s9, s10⟩ := id S
  unfold J_X12_touchPut_64 J_X12_touchPut_108
  refine hs_bind (r_many hO hy s1 s2 s3 w2 s10 ae s8 s9) (fun r hr => ?_)
  obtain ⟨er, C⟩ := hr
  rw [er]
  rw [s6] at C
  have em := CN_e s9 (by omega) (by omega) C
  refine hs_ite (fun c => ?_) (fun c => ?_)
  · have c1 := o_eq c
    rw [ic_t (em.1.mp (by omega))] at hV
    refine hs_bind (r_inList hO hN TO (x1 := 0) S w2 wn ae (by decide) (by decide) hy) (fun q hq => ?_)
    obtain ⟨h1, h2, h3, h4⟩ := hq
    have tb := Tou_b (E := E) (lw := lw) n 0 ((y / 2 ^ lw w : Nat) : Int) (w - lw w) (Lis (DS (mR δ b) (a + 1) (e - 1)) (2 ^ lw w))
    have h1' : q.1.toInt = tL E lw n 0 w (DS (mR δ b) (a + 1) (e - 1)) y := h1
    have tb' : 0 ≤ tL E lw n 0 w (DS (mR δ b) (a + 1) (e - 1)) y ∧ tL E lw n 0 w (DS (mR δ b) (a + 1) (e - 1)) y ≤ 4 * (n : Int) := tb
    have t := te_cadd (c := 2) (n := 2) rfl q.1 (by omega) (by omega)
    exact hs_some ⟨by show (2 + q.1).toInt = V; omega, h2, h3, h4⟩
  · have c1 := o_ne c
    rw [ic_f (fun z => by have := em.1.mpr z; omega)] at hV
    refine hs_bind (r_inRoom hO hN TO (x1 := 0) S w2 wn ae (by decide) (by decide) hy) (fun q hq => ?_)
    obtain ⟨h1, h2, h3, h4⟩ := hq
    have tb := Tou_b (E := E) (lw := lw) n 0 ((y % 2 ^ lw w : Nat) : Int) (lw w) (Roo (DS (mR δ b) (a + 1) (e - 1)) (2 ^ lw w) (y / 2 ^ lw w))
    have h1' : q.1.toInt = tR E lw n 0 w (DS (mR δ b) (a + 1) (e - 1)) y := h1
    have tb' : 0 ≤ tR E lw n 0 w (DS (mR δ b) (a + 1) (e - 1)) y ∧ tR E lw n 0 w (DS (mR δ b) (a + 1) (e - 1)) y ≤ 4 * (n : Int) := tb
    have t := te_cadd (c := 1) (n := 1) rfl q.1 (by omega) (by omega)
    exact hs_some ⟨by show (1 + q.1).toInt = V; omega, h2, h3, h4⟩
theorem tR_b {c : Int} {w : Nat} {I : Nat → Prop} {y : Nat} : 0 ≤ tR E lw n c w I y ∧ tR E lw n c w I y ≤ 4 * (n : Int) := Tou_b n c _ _ _
theorem tL_b {c : Int} {w : Nat} {I : Nat → Prop} {y : Nat} : 0 ≤ tL E lw n c w I y ∧ tL E lw n c w I y ≤ 4 * (n : Int) := Tou_b n c _ _ _
/-- the ends of what lies there -/
theorem r_ends {R : Nat → Int} {a e w : Nat} (G : RG R a e w) (ae : a < e) : R a = (((R a).toNat : Nat) : Int) ∧ R (e - 1) = (((R (e - 1)).toNat : Nat) : Int) ∧ ((R a).toNat = (R (e - 1)).toNat ↔ e = a + 1) ∧ (R a).toNat ≤ (R (e - 1)).toNat := by
  have g1 := G.2 a (Nat.le_refl _) ae
  have g2 := G.2 (e - 1) (by omega) (by omega)
  have mm := G.m (Nat.le_refl a) (by omega : a ≤ e - 1) (by omega)
  have iff : (R a).toNat = (R (e - 1)).toNat ↔ e = a + 1 := by
    constructor
    · intro z
      have : ¬ a < e - 1 := fun h => by have := G.1 a (e - 1) (Nat.le_refl _) h (by omega); omega
      omega
    · intro z
      rw [z]; rfl
  exact ⟨by omega, by omega, iff, by omega⟩
theorem r_put (hO : q_O g 12 35 a0 = some b) (hN : q_N g b = 14000) (TO : TOk a0 b E lw T n) (n20 : n ≤ 20) {x1 x2 x3 x4 : Int32} {δ : dp} {w a e : Nat} (S : TS a0 b E lw δ w a e x2 x3 x4) (w2 : 2 ≤ w) (wn : w ≤ n + 1) (ae : a < e) {V : Int} (hV1 : (mR δ b a).toNat = (mR δ b (e - 1)).toNat → V = 1) (hV : (mR δ b a).toNat ≠ (mR δ b (e - 1)).toNat → V = TBp x1.toInt (DS (mR δ b) (a + 1) (e - 1)) (mR δ b a).toNat (mR δ b (e - 1)).toNat (2 ^ lw w) (tR E lw n 0 w (DS (mR δ b) (a + 1) (e - 1))) (tL E lw n 0 w (DS (mR δ b) (a + 1) (e - 1)))) : hs (B_X12_touchPut N g T a0 x1 x2 x3 x4 δ) (TP a0 b e δ V) := by
  have z1 : (1 : Int32).toInt = 1 := rfl
  obtain ⟨s1, s2, s3, s4, s5, s6, s7, s8, s9, s10⟩ := id S
  obtain ⟨la, ga, eq1, lga⟩ := r_ends s9 ae
  unfold B_X12_touchPut J_X12_touchPut_39
  refine hs_at hO (hs_gd (fun _ => hs_biv (fun u eu => hs_at hO (hs_gd (fun _ => hs_biv (fun v ev => ?_))))))
  have ia : x3.toNatClampNeg = a := by have := ti_tn x3; omega
  have t4 := te_subc (c := 1) (n := 1) rfl x4 (by omega) (by omega)
  have ie : (x4 - 1).toNatClampNeg = e - 1 := by have := ti_tn (x4 - 1); omega
  rw [ia] at eu
  rw [ie] at ev
  clear t4 ie
  have hu : u.toInt = mR δ b a := by rw [eu]; rfl
  have hv : v.toInt = mR δ b (e - 1) := by rw [ev]; rfl
  clear eu ev
  have t5 := te_sub x4 x3 (by omega) (by omega)
  generalize (mR δ b a).toNat = va at *
  generalize (mR δ b (e - 1)).toNat = vb at *
  have one : (x1.toInt = (va : Int) ∨ x1.toInt = (vb : Int)) → hs (some ((1 : Int32), δ)) (TP a0 b e δ V) := fun z => by
    refine TP_s s4 ?_
    by_cases q : va = vb
    · rw [hV1 q]; rfl
    · rw [hV q]
      unfold TBp
      rw [ic_t z]; rfl
  refine hs_ite (fun c => one (Or.inl (by have := o_eq c; omega))) (fun c => hs_ite (fun c2 => one (Or.inr (by have := o_eq c2; omega))) (fun c2 => hs_ite (fun c3 => TP_s s4 (by rw [hV1 (eq1.mpr (by have := o_eq c3; omega))]; rfl)) (fun c3 => ?_)))
  have c1 := o_ne c
  have c4 := o_ne c2
  have c5 := o_ne c3
  have ne : va ≠ vb := fun q => by have := eq1.mp q; omega
  have hV' := hV ne
  unfold TBp at hV'
  rw [ic_f (fun z => by omega)] at hV'
  have key : ∀ (xs : Int32), xs.toInt = ((cl x1.toInt va vb : Nat) : Int) → hs (J_X12_touchPut_64 N g T a0 x1 x2 x3 x4 xs δ) (TP a0 b e δ V) := fun xs hx => r_put64 hO hN TO n20 S w2 wn ae hx hV'
  refine hs_ite (fun c6 => hs_ite (fun c7 => key _ ?_) (fun c7 => key _ ?_)) (fun c6 => key _ ?_)
  · have := o_le c6
    have := o_le c7
    unfold cl
    rw [if_neg (by omega), if_neg (by omega)]
    omega
  · have := o_le c6
    have := o_nle c7
    unfold cl
    rw [if_neg (by omega), if_pos (by omega)]
    omega
  · have := o_nle c6
    unfold cl
    rw [if_pos (by omega)]
    omega
end
