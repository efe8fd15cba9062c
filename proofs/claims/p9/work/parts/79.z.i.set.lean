/-! TOUCHES of a set told by bits -/
def bitS (s : Int32) (y : Nat) : Prop := y < 16 ∧ ¬ ((s >>> (Int32.ofNat y &&& 31)) &&& (1 : Int32)) = 0
section
variable {N : Nat} {g : gp} {a0 b : Nat}
theorem r_setL (hO : q_O g 12 35 a0 = some b) (hN : q_N g b = 14000) {x1 x2 x3 : Int32} {δ : dp} {E w : Nat} (E1 : 1 ≤ E) (hE : (q_I δ 12 11 a0).toInt = (E : Int)) (hw : (q_I δ 12 10 a0).toInt = (w : Int)) (w1 : 1 ≤ w) (w16 : w ≤ 16) (c0 : 0 ≤ x1.toInt) (c4 : x1.toInt ≤ 4) : ∀ (m v T : Nat) (x4 : Int32) (d : dp), x4.toInt = (v : Int) → v ≤ 16 → (q_I d 12 36 a0).toInt = (T : Int) → T ≤ v → kp [(12, 36)] δ d → (∀ i j, 0 ≤ i → i < j → j < T → mR d b i < mR d b j) → (∀ i, 0 ≤ i → i < T → 0 ≤ mR d b i) → (∀ y, DS (mR d b) 0 T y ↔ y < v ∧ bitS x3 y) → hs (L_X12_touchSet_8 N g a0 x1 x2 x3 m x4 d) (fun r => r.1.toInt = Tou E (lwf (q_I δ 12 12 a0)) 20 x1.toInt x2.toInt w (bitS x3)) := by
  have z16 : (16 : Int32).toInt = 16 := rfl
  intro m
  induction m with
  | zero => intro v T x4 d _ _ _ _ _ _ _ _; exact hs_none
  | succ m ih =>
    intro v T x4 d h4 v16 hT Tv kpd st nn se
    unfold L_X12_touchSet_8 J_X12_touchSet_48
    refine hs_ite (fun c => ?_) (fun c => ?_)
    · have c1 := o_le c
      have es : DS (mR d b) 0 T = bitS x3 := by
        funext y
        exact propext ((se y).trans ⟨fun z => z.2, fun z => ⟨by have := z.1; omega, z⟩⟩)
      unfold D_X12_touch
      refine hs_bind (r_touch (lw := lwf (q_I δ 12 12 a0)) hO hN E1 20 20 (by decide) x1 x2 (q_I d 12 10 a0) 0 (q_I d 12 36 a0) d w 0 T ⟨by rw [kpd 12 10 a0 (by decide)]; exact hw, rfl, hT, hT, by rw [kpd 12 11 a0 (by decide)]; exact hE, by rw [kpd 12 12 a0 (by decide)], Nat.zero_le _, by omega, ⟨st, fun i p q => ⟨nn i p q, trivial⟩⟩, w16⟩ w1 (by omega) c0 c4) (fun q hq => hs_some ?_)
      have := hq.1
      rw [es] at this
      exact this
    · have c1 := o_nle c
      have e4 : x4 = Int32.ofNat v := Int32.toInt_inj.mp (by rw [Int32.toInt_ofNat_of_lt (by omega)]; exact h4)
      have t4 := te_addc (c := 1) (n := 1) rfl x4 (by omega) (by omega)
      refine hs_ite (fun c2 => ?_) (fun c2 => ?_)
      · refine hs_biv (fun y ey => ?_)
        rw [← ey] at t4
        refine ih (v + 1) T y d (by omega) (by omega) hT (by omega) kpd st nn (fun u => ?_)
        rw [se u]
        constructor
        · intro z; exact ⟨by omega, z.2⟩
        · intro z
          by_cases k : u = v
          · rw [k] at z
            rw [e4] at c2
            exact absurd c2 z.2.2
          · exact ⟨by omega, z.2⟩
      · refine hs_at hO (hs_gd (fun gd => hs_bdv (fun d1 e1 => hs_bdv (fun d2 e2 => hs_biv (fun y ey => ?_)))))
        have iT : (q_I d 12 36 a0).toNatClampNeg = T := by have := ti_tn (q_I d 12 36 a0); omega
        rw [iT] at e1
        clear gd
        have q1 : q_I d1 12 36 a0 = q_I d 12 36 a0 := by rw [e1]; rfl
        have t7 := te_addc (c := 1) (n := 1) rfl (q_I d 12 36 a0) (by omega) (by omega)
        rw [← ey] at t4
        have w2 : q_R d2 = q_R d1 := by rw [e2]; rfl
        have r2 : ∀ i, mR d2 b i = if i = T then (v : Int) else mR d b i := fun i => by
          rw [mR_w w2]
          show (q_R d1 b i).toInt = _
          rw [e1, qR_sR]
          by_cases z : i = T
          · rw [if_pos ⟨rfl, z⟩, if_pos z]; exact h4
          · rw [if_neg (fun y => z y.2), if_neg z]; rfl
        have rT : mR d2 b T = (v : Int) := by rw [r2, if_pos rfl]
        have ro : ∀ i, 0 ≤ i → i < T → mR d2 b i = mR d b i := fun i _ q => by rw [r2, if_neg (by omega)]
        have lt : ∀ i, 0 ≤ i → i < T → mR d b i < (v : Int) := fun i p q => by
          have n0 := nn i p q
          have := ((se (mR d b i).toNat).mp ⟨i, p, q, by omega⟩).1
          omega
        refine ih (v + 1) (T + 1) y d2 (by omega) (by omega) (by rw [e2, rI_s, q1]; omega) (by omega) (kp_w (by decide) (kp_I (kp_N kpd (by rw [e1]; rfl)) e2)) (fun i j p q r => ?_) (fun i p q => ?_) (fun u => ?_)
        · by_cases z : j = T
          · rw [z, rT, ro i p (by omega)]; exact lt i p (by omega)
          · rw [ro i p (by omega), ro j (by omega) (by omega)]; exact st i j p q (by omega)
        · by_cases z : i = T
          · rw [z, rT]; exact Int.natCast_nonneg _
          · rw [ro i p (by omega)]; exact nn i p (by omega)
        · rw [DS_push (Nat.zero_le T) rT ro u, se u]
          constructor
          · rintro (z | z)
            · exact ⟨by omega, z.2⟩
            · refine ⟨by omega, by omega, ?_⟩
              rw [z, ← e4]; exact c2
          · rintro ⟨p, q⟩
            by_cases k : u = v
            · exact Or.inr k
            · exact Or.inl ⟨by omega, q⟩
theorem r_touchSet (hO : q_O g 12 35 a0 = some b) (hN : q_N g b = 14000) {x1 x2 x3 : Int32} {δ : dp} {E w : Nat} (E1 : 1 ≤ E) (hE : (q_I δ 12 11 a0).toInt = (E : Int)) (hw : (q_I δ 12 10 a0).toInt = (w : Int)) (w1 : 1 ≤ w) (w16 : w ≤ 16) (c0 : 0 ≤ x1.toInt) (c4 : x1.toInt ≤ 4) : hs (D_X12_touchSet N g a0 x1 x2 x3 δ) (fun r => r.1.toInt = Tou E (lwf (q_I δ 12 12 a0)) 20 x1.toInt x2.toInt w (bitS x3)) := by
  unfold D_X12_touchSet
  exact hs_bdv (fun d e => r_setL hO hN E1 hE hw w1 w16 c0 c4 N 0 0 0 d rfl (by decide) (by rw [e, rI_s]; rfl) (Nat.le_refl _) (kp_I kp_r e) (fun i j p q r => by omega) (fun i p q => by omega) (fun y => ⟨fun ⟨k, p, q, _⟩ => by omega, fun z => by omega⟩))
end
