/-! the table is filled -/
theorem fV_b {tv : Int32 → Int32 → Int32 → Int32} {A : Int32} {a : Nat} (ha : a = 4 ∨ a = 8 ∨ a = 16) (hA : A.toInt = (a : Int)) {ρ : Nat → Int32} {n l : Nat} (hl : 1 ≤ l) (T : fT tv A a ρ n (l - 1)) {q s : Int32} (s0 : 0 ≤ s.toInt) (s1 : s.toInt < ((2 ^ a : Nat) : Int)) (hp : pc 16 (un s) + l ≤ n) (q0 : 0 ≤ q.toInt) (q1 : q.toInt ≤ 5 * (a : Int)) : 0 ≤ (ρ (65536 * (l - 1) + (bh (q / A) (q - q / A * A) s).toInt.toNat)).toInt ∧ (ρ (65536 * (l - 1) + (bh (q / A) (q - q / A * A) s).toInt.toNat)).toInt ≤ 61 * (l : Int) - 61 := by
  have hx := qx ha hA q0 q1
  have hb := bh_r (a := a) (by omega) (q / A) s0 s1 hx.1 hx.2
  have G := T (l - 1) (Nat.le_refl _) (bh (q / A) (q - q / A * A) s) hb.1 hb.2.1 (by omega)
  exact ⟨G.1, by have := G.2.1; omega⟩
set_option maxHeartbeats 4000000 in
theorem fl_63 {ad : List Nat} {h : hp} (L : Lay TLx ad h) {δ0 : dp} {N : Nat} (hN : 10000000 ≤ N) {a0 : Nat} (k_a0 : q_K h.1 a0 = 12) {δs : dp} (I : RI ad h.1 δ0 δs) {a : Nat} (ha : a = 4 ∨ a = 8 ∨ a = 16) (hA : ((1 : Int32) <<< (q_I δs 12 10 a0 &&& 31)).toInt = (a : Int)) {nn l : Nat} (hn : nn ≤ 6) (hl : 1 ≤ l) (hln : l ≤ nn) {x1 x2v x3v x4v : Int32} {kt29 : Int32 → Int32 → dp → Option (dp)} {kt37 : Int32 → Int32 → Int32 → dp → Option (dp)} {Q : dp → Prop} (e3 : x3v.toInt = (l : Int)) (s0 : 0 ≤ x4v.toInt) (s1 : x4v.toInt < ((2 ^ a : Nat) : Int)) (hp : pc 16 (un x4v) + l ≤ nn)
    (hk : ∀ δ' x, x.toInt = x4v.toInt + 1 → FE ad h.1 δ0 δs δ' → fT (tvf N h.1 a0 δs) ((1 : Int32) <<< (q_I δs 12 10 a0 &&& 31)) a (q_R δ' (Ad ad 122)) nn (l - 1) → (∀ s : Int32, 0 ≤ s.toInt → s.toInt < x4v.toInt + 1 → pc 16 (un s) + l ≤ nn → fG (tvf N h.1 a0 δs) ((1 : Int32) <<< (q_I δs 12 10 a0 &&& 31)) a (q_R δ' (Ad ad 122)) l s) → ok (kt37 x2v x3v x δ') Q) :
    ∀ (n : Nat) (x5v x6v : Int32) (δ : dp), FE ad h.1 δ0 δs δ → fT (tvf N h.1 a0 δs) ((1 : Int32) <<< (q_I δs 12 10 a0 &&& 31)) a (q_R δ (Ad ad 122)) nn (l - 1) → (∀ s : Int32, 0 ≤ s.toInt → s.toInt < x4v.toInt → pc 16 (un s) + l ≤ nn → fG (tvf N h.1 a0 δs) ((1 : Int32) <<< (q_I δs 12 10 a0 &&& 31)) a (q_R δ (Ad ad 122)) l s) → 0 ≤ x5v.toInt → x5v.toInt ≤ 61 * (l : Int) → 0 ≤ x6v.toInt → x6v.toInt ≤ 5 * (a : Int) → (x6v.toInt = 0 ∧ x5v.toInt = 0 ∨ ∃ q : Int32, 0 ≤ q.toInt ∧ q.toInt < x6v.toInt ∧ fV (tvf N h.1 a0 δs) ((1 : Int32) <<< (q_I δs 12 10 a0 &&& 31)) (q_R δ (Ad ad 122)) l q x4v = x5v.toInt) → 5 * (a : Int) - x6v.toInt < (n : Int) → ok (L_X12_findRow_63 N h.1 a0 x1 kt29 kt37 n x2v x3v x4v x5v x6v δ) Q := by
  obtain ⟨b1, o1, _, n1, _⟩ := gO_12_43 L k_a0
  obtain rfl := gS_12_43 L k_a0 o1
  have hp2 : 2 ^ a ≤ 65536 := by rcases ha with rfl | rfl | rfl <;> decide
  have ha16 : a ≤ 16 := by omega
  have hA0 : ¬ ((1 : Int32) <<< (q_I δs 12 10 a0 &&& 31)) = 0 := fun z => by
    have z1 := o_eq z
    have z0 : (0 : Int32).toInt = 0 := rfl
    omega
  have z0 : (0 : Int32).toInt = 0 := rfl
  intro n
  induction n with
  | zero => intro x5v x6v δ F T P m0 m1 q0 q1 at' hm; exfalso; omega
  | succ n ih =>
    intro x5v x6v δ F T P m0 m1 q0 q1 at' hm
    unfold L_X12_findRow_63
    refine ok_at (fe_all F) ?_
    dsimp only
    have h5 := te_mulc (c := 5) (n := 5) rfl ((1 : Int32) <<< (q_I δs 12 10 a0 &&& 31)) (by omega) (by omega)
    refine ok_ite (fun c => ?_) (fun c => ?_)
    · have c1 := o_le c
      refine ok_at o1 ?_
      have i1 := te_mulc (c := 65536) (n := 65536) rfl x3v (by omega) (by omega)
      have i2 := te_add ((65536 : Int32) * x3v) x4v (by omega) (by omega)
      have i3 := ti_tn (((65536 : Int32) * x3v) + x4v)
      refine ok_gd (fun z => ?_) ?_
      · rcases z with z | z
        · have := o_lt z; omega
        · rw [n1] at z; omega
      refine ok_bdv (fun d e => ?_)
      unfold J_X12_findRow_167
      refine ok_biv (fun x ex => ?_)
      have hx := te_addc (c := 1) (n := 1) rfl x4v (by omega) (by omega)
      rw [← ex] at hx
      have hix : (((65536 : Int32) * x3v) + x4v).toNatClampNeg = 65536 * l + x4v.toInt.toNat := by omega
      have hw : ∀ i, q_R d (Ad ad 122) i = if i = 65536 * l + x4v.toInt.toNat then x5v else q_R δ (Ad ad 122) i := by
        intro i
        rw [e, qR_sR, hix]
        by_cases c : i = 65536 * l + x4v.toInt.toNat
        · rw [if_pos ⟨rfl, c⟩, if_pos c]
        · rw [if_neg (fun z => c z.2), if_neg c]
      refine hk d x (by omega) (fe_w2 L F e) (fT_c ha hA (fun i hi => ?_) T) (fun s t0 t1 tp => ?_)
      · rw [hw, if_neg (by omega)]
      · by_cases cs : s.toInt = x4v.toInt
        · have : s = x4v := i_eq cs
          subst this
          unfold fG
          rw [hw, if_pos rfl]
          refine ⟨m0, m1, fun _ => ?_⟩
          rcases at' with at' | at'
          · exfalso; omega
          · obtain ⟨q, r0, r1, r2⟩ := at'
            refine ⟨q, r0, by omega, ?_⟩
            rw [← r2]
            have hqx := qx ha hA r0 (by omega)
            have hb := bh_r (a := a) ha16 (q / ((1 : Int32) <<< (q_I δs 12 10 a0 &&& 31))) s0 s1 hqx.1 hqx.2
            unfold fV
            rw [hw, if_neg (by omega)]
        · exact fG_c ha hA t0 (by omega) (fun i hi => by rw [hw, if_neg (by omega)]) (by rw [hw, if_neg (by omega)]) (P s t0 (by omega) tp)
    · have c1 := o_nle c
      refine ok_at (fe_all F) ?_
      dsimp only
      refine ok_gd hA0 ?_
      refine ok_at (fe_all F) ?_
      dsimp only
      refine ok_gd hA0 ?_
      refine ok_bind (fe_ts L hN (c := x6v / ((1 : Int32) <<< (q_I δs 12 10 a0 &&& 31))) (x := x6v - x6v / ((1 : Int32) <<< (q_I δs 12 10 a0 &&& 31)) * ((1 : Int32) <<< (q_I δs 12 10 a0 &&& 31))) (s := x4v) k_a0 (qc4 ha hA q0 (by omega)).1 (qc4 ha hA q0 (by omega)).2 I F) (fun r hr => ?_)
      obtain ⟨v1, v2, v3, F2, fr⟩ := hr
      refine ok_at o1 ?_
      refine ok_at (fe_all F2) ?_
      dsimp only
      refine ok_gd hA0 ?_
      refine ok_at (fe_all F2) ?_
      dsimp only
      refine ok_gd hA0 ?_
      refine ok_at behind_eq ?_
      dsimp only
      have hqx := qx ha hA q0 (by omega)
      have hb := bh_r (a := a) ha16 (x6v / ((1 : Int32) <<< (q_I δs 12 10 a0 &&& 31))) s0 s1 hqx.1 hqx.2
      have hv := fV_b ha hA hl T s0 s1 hp q0 (by omega)
      have i0 := te_subc (c := 1) (n := 1) rfl x3v (by omega) (by omega)
      have i1 := te_mulc (c := 65536) (n := 65536) rfl (x3v - 1) (by omega) (by omega)
      have i2 := te_add ((65536 : Int32) * (x3v - 1)) (bh (x6v / ((1 : Int32) <<< (q_I δs 12 10 a0 &&& 31))) (x6v - x6v / ((1 : Int32) <<< (q_I δs 12 10 a0 &&& 31)) * ((1 : Int32) <<< (q_I δs 12 10 a0 &&& 31))) x4v) (by omega) (by omega)
      have i3 := ti_tn (((65536 : Int32) * (x3v - 1)) + (bh (x6v / ((1 : Int32) <<< (q_I δs 12 10 a0 &&& 31))) (x6v - x6v / ((1 : Int32) <<< (q_I δs 12 10 a0 &&& 31)) * ((1 : Int32) <<< (q_I δs 12 10 a0 &&& 31))) x4v))
      refine ok_gd (fun z => ?_) ?_
      · rcases z with z | z
        · have := o_lt z; omega
        · rw [n1] at z; omega
      have hix : (((65536 : Int32) * (x3v - 1)) + (bh (x6v / ((1 : Int32) <<< (q_I δs 12 10 a0 &&& 31))) (x6v - x6v / ((1 : Int32) <<< (q_I δs 12 10 a0 &&& 31)) * ((1 : Int32) <<< (q_I δs 12 10 a0 &&& 31))) x4v)).toNatClampNeg = 65536 * (l - 1) + (bh (x6v / ((1 : Int32) <<< (q_I δs 12 10 a0 &&& 31))) (x6v - x6v / ((1 : Int32) <<< (q_I δs 12 10 a0 &&& 31)) * ((1 : Int32) <<< (q_I δs 12 10 a0 &&& 31))) x4v).toInt.toNat := by omega
      refine ok_biv (fun y ey => ?_)
      rw [hix, fr] at ey
      have hy := te_add r.1 (q_R δ (Ad ad 122) (65536 * (l - 1) + (bh (x6v / ((1 : Int32) <<< (q_I δs 12 10 a0 &&& 31))) (x6v - x6v / ((1 : Int32) <<< (q_I δs 12 10 a0 &&& 31)) * ((1 : Int32) <<< (q_I δs 12 10 a0 &&& 31))) x4v).toInt.toNat)) (by omega) (by omega)
      rw [← ey] at hy
      have hyV : fV (tvf N h.1 a0 δs) ((1 : Int32) <<< (q_I δs 12 10 a0 &&& 31)) (q_R r.2 (Ad ad 122)) l x6v x4v = y.toInt := by
        unfold fV
        rw [fr, ← v1]
        omega
      have T2 : fT (tvf N h.1 a0 δs) ((1 : Int32) <<< (q_I δs 12 10 a0 &&& 31)) a (q_R r.2 (Ad ad 122)) nn (l - 1) := by rw [fr]; exact T
      have P2 : ∀ s : Int32, 0 ≤ s.toInt → s.toInt < x4v.toInt → pc 16 (un s) + l ≤ nn → fG (tvf N h.1 a0 δs) ((1 : Int32) <<< (q_I δs 12 10 a0 &&& 31)) a (q_R r.2 (Ad ad 122)) l s := by rw [fr]; exact P
      have hx := te_addc (c := 1) (n := 1) rfl x6v (by omega) (by omega)
      refine ok_ite (fun c => ?_) (fun c => ?_)
      · have c2 := o_le c
        unfold J_X12_findRow_144
        refine ok_biv (fun x ex => ?_)
        rw [← ex] at hx
        refine ih x5v x r.2 F2 T2 P2 m0 m1 (by omega) (by omega) (Or.inr ?_) (by omega)
        rcases at' with at' | at'
        · exfalso; omega
        · obtain ⟨q, r0, r1, r2⟩ := at'
          exact ⟨q, r0, by omega, by rw [fr]; exact r2⟩
      · have c2 := o_nle c
        unfold J_X12_findRow_144
        refine ok_biv (fun x ex => ?_)
        rw [← ex] at hx
        exact ih y x r.2 F2 T2 P2 (by omega) (by omega) (by omega) (by omega) (Or.inr ⟨x6v, q0, by omega, hyV⟩) (by omega)
