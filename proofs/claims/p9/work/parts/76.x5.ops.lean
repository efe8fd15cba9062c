/-! ops of the reference that read or change houses -/
theorem e_all {N : Nat} {g : gp} {a0 : Nat} {δ : dp} : D_X12_all N g a0 δ = some ((1 : Int32) <<< ((q_I δ 12 10 a0) &&& 31), δ) := rfl
theorem all_b {ad : List Nat} {h : hp} {δ0 δ : dp} {a0 : Nat} (ka : q_K h.1 a0 = 12) (I : RI ad h.1 δ0 δ) : 4 ≤ ((1 : Int32) <<< ((q_I δ 12 10 a0) &&& 31)).toInt ∧ ((1 : Int32) <<< ((q_I δ 12 10 a0) &&& 31)).toInt ≤ 65536 := by
  have := sh_b (q_I δ 12 10 a0) (cb_12_10 I ka)
  exact ⟨this.1, this.2.1⟩
set_option maxHeartbeats 4000000 in
theorem fl_runs {ad : List Nat} {h : hp} (L : Lay TLx ad h) {δ0 : dp} {N : Nat} (hNN : 10000000 ≤ N) {a0 A B : Nat} {x1 x2 : Int32} (ka : q_K h.1 a0 = 12) (hx : x1.toInt = (A : Int)) (hA : A < 4) (hy : x2.toInt = (B : Int)) (hB : B < 4) {δ : dp} (I : RI ad h.1 δ0 δ) (SA : hok ad a0 δ A) (SB : hok ad a0 δ B) : ∀ (n i j : Nat) (x3 x4 x5 x6 : Int32), x5.toInt = (i : Int) → x6.toInt = (j : Int) → (i : Int) ≤ hM ad δ A → (j : Int) ≤ hM ad δ B → (hM ad δ A - i) + (hM ad δ B - j) < (n : Int) → ok (L_X12_runs_36 N h.1 a0 x1 x2 n x3 x4 x5 x6 δ) (fun r => r.2 = δ) := by
  have bA : -1000 ≤ hM ad δ A ∧ hM ad δ A ≤ 2000 := rb_103 L I A
  have bB : -1000 ≤ hM ad δ B ∧ hM ad δ B ≤ 2000 := rb_103 L I B
  have vA : (q_R δ (Ad ad 103) A).toInt = hM ad δ A := rfl
  have vB : (q_R δ (Ad ad 103) B).toInt = hM ad δ B := rfl
  have tx := tnH hx
  have ty := tnH hy
  have e0 : (0 : Int32).toInt = 0 := rfl
  have ab := all_b ka I
  obtain ⟨bm, om, _, nm⟩ := gO_12_14 L ka
  obtain rfl := gS_12_14 L ka om
  intro n
  induction n with
  | zero => intro i j x3 x4 x5 x6 h5 h6 hi hj hn; exfalso; omega
  | succ n ih =>
    intro i j x3 x4 x5 x6 h5 h6 hi hj hn
    have t5 := te_addc (c := 1) (n := 1) rfl x5 (by omega) (by omega)
    have t6 := te_addc (c := 1) (n := 1) rfl x6 (by omega) (by omega)
    have fin : ∀ (y5 y6 X Y : Int32) (i2 j2 : Nat), y5.toInt = (i2 : Int) → y6.toInt = (j2 : Int) → (i2 : Int) ≤ hM ad δ A → (j2 : Int) ≤ hM ad δ B → i + j < i2 + j2 → ok (J_X12_runs_132 N h.1 a0 x1 x2 (L_X12_runs_36 N h.1 a0 x1 x2 n) x3 x4 y5 y6 X Y δ) (fun r => r.2 = δ) := fun y5 y6 X Y i2 j2 a1 a2 a3 a4 a5 => by
      have go : ∀ z3 z4 : Int32, ok (L_X12_runs_36 N h.1 a0 x1 x2 n z3 z4 y5 y6 δ) (fun r => r.2 = δ) := fun z3 z4 => ih i2 j2 z3 z4 y5 y6 a1 a2 a3 a4 (by omega)
      unfold J_X12_runs_132
      refine ok_ite (fun _ => go _ _) (fun _ => ?_)
      have g2 : ∀ w : Int32, ok (J_X12_runs_154 N h.1 a0 x1 x2 (L_X12_runs_36 N h.1 a0 x1 x2 n) w x3 x4 y5 y6 δ) (fun r => r.2 = δ) := fun w => by
        unfold J_X12_runs_154
        refine ok_ite (fun _ => ?_) (fun _ => ?_)
        · unfold J_X12_runs_169
          exact ok_biv (fun _ _ => go _ _)
        · unfold J_X12_runs_169
          exact ok_biv (fun _ _ => go _ _)
      exact ok_ite (fun _ => g2 1) (fun _ => g2 0)
    have step : ∀ X Y : Int32, ((i : Int) < hM ad δ A ∧ X.toInt < ((1 : Int32) <<< ((q_I δ 12 10 a0) &&& 31)).toInt ∨ (i : Int) = hM ad δ A ∧ X = (1 : Int32) <<< ((q_I δ 12 10 a0) &&& 31)) → ((j : Int) < hM ad δ B ∧ Y.toInt < ((1 : Int32) <<< ((q_I δ 12 10 a0) &&& 31)).toInt ∨ (j : Int) = hM ad δ B ∧ Y = (1 : Int32) <<< ((q_I δ 12 10 a0) &&& 31)) → ¬ ((i : Int) = hM ad δ A ∧ (j : Int) = hM ad δ B) → ok (J_X12_runs_110 N h.1 a0 x1 x2 (L_X12_runs_36 N h.1 a0 x1 x2 n) Y x3 x4 x5 x6 X δ) (fun r => r.2 = δ) := fun X Y hX hY hne => by
      have dX : (i : Int) < hM ad δ A ∧ X.toInt < ((1 : Int32) <<< ((q_I δ 12 10 a0) &&& 31)).toInt ∨ (i : Int) = hM ad δ A ∧ X.toInt = ((1 : Int32) <<< ((q_I δ 12 10 a0) &&& 31)).toInt := hX.imp id (fun z => ⟨z.1, by rw [z.2]⟩)
      have dY : (j : Int) < hM ad δ B ∧ Y.toInt < ((1 : Int32) <<< ((q_I δ 12 10 a0) &&& 31)).toInt ∨ (j : Int) = hM ad δ B ∧ Y.toInt = ((1 : Int32) <<< ((q_I δ 12 10 a0) &&& 31)).toInt := hY.imp id (fun z => ⟨z.1, by rw [z.2]⟩)
      generalize hG : ((1 : Int32) <<< ((q_I δ 12 10 a0) &&& 31)).toInt = G at dX dY ab
      unfold J_X12_runs_110
      refine ok_ite (fun c => ?_) (fun c => ?_)
      · have c1 := o_lt c
        unfold J_X12_runs_122
        refine ok_ite (fun c2 => ?_) (fun _ => ?_)
        · have := o_lt c2; exfalso; omega
        · refine ok_biv (fun y ey => ?_)
          exact fin x5 y X Y i (j + 1) h5 (by rw [ey]; omega) hi (by omega) (by omega)
      · have c1 := o_nlt c
        refine ok_biv (fun y ey => ?_)
        have hyy : y.toInt = ((i + 1 : Nat) : Int) := by rw [ey]; omega
        unfold J_X12_runs_122
        refine ok_ite (fun _ => ?_) (fun c2 => ?_)
        · exact fin y x6 X Y (i + 1) j hyy h6 (by omega) hj (by omega)
        · have c3 := o_nlt c2
          refine ok_biv (fun y2 ey2 => ?_)
          exact fin y y2 X Y (i + 1) (j + 1) hyy (by rw [ey2]; omega) (by omega) (by omega) (by omega)
    have mid : ¬ ((i : Int) = hM ad δ A ∧ (j : Int) = hM ad δ B) → ok (J_X12_runs_58 N h.1 a0 x1 x2 (L_X12_runs_36 N h.1 a0 x1 x2 n) x3 x4 x5 x6 δ) (fun r => r.2 = δ) := fun hne => by
      have m2 : ∀ X : Int32, ((i : Int) < hM ad δ A ∧ X.toInt < ((1 : Int32) <<< ((q_I δ 12 10 a0) &&& 31)).toInt ∨ (i : Int) = hM ad δ A ∧ X = (1 : Int32) <<< ((q_I δ 12 10 a0) &&& 31)) → ok (J_X12_runs_83 N h.1 a0 x1 x2 (L_X12_runs_36 N h.1 a0 x1 x2 n) X x3 x4 x5 x6 δ) (fun r => r.2 = δ) := fun X hX => by
        unfold J_X12_runs_83
        refine ok_at om ?_
        refine ok_gd (fun z => ?_) ?_
        · rcases z with z | z
          · have := o_lt z; omega
          · omega
        rw [ty]
        refine ok_ite (fun c => ?_) (fun c => ?_)
        · have c1 := o_le c
          rw [e_all, Option.bind_some]
          exact step X _ hX (Or.inr ⟨by omega, rfl⟩) hne
        · have c1 := o_nle c
          refine ok_bind (f12_numberAt L hNN ka hy hB h6 I (by omega)) (fun r hr => ?_)
          obtain ⟨e, hv⟩ := hr
          rw [e]
          have rr : rg a0 δ r.1 := SB.2 _ ⟨j, by omega, by rw [hv]; rfl⟩
          exact step X r.1 hX (Or.inl ⟨by omega, rr.2⟩) hne
      unfold J_X12_runs_58
      refine ok_at om ?_
      refine ok_gd (fun z => ?_) ?_
      · rcases z with z | z
        · have := o_lt z; omega
        · omega
      rw [tx]
      refine ok_ite (fun c => ?_) (fun c => ?_)
      · have c1 := o_le c
        rw [e_all, Option.bind_some]
        exact m2 _ (Or.inr ⟨by omega, rfl⟩)
      · have c1 := o_nle c
        refine ok_bind (f12_numberAt L hNN ka hx hA h5 I (by omega)) (fun r hr => ?_)
        obtain ⟨e, hv⟩ := hr
        rw [e]
        have rr : rg a0 δ r.1 := SA.2 _ ⟨i, by omega, by rw [hv]; rfl⟩
        exact m2 r.1 (Or.inl ⟨by omega, rr.2⟩)
    unfold L_X12_runs_36
    refine ok_at om ?_
    refine ok_gd (fun z => ?_) ?_
    · rcases z with z | z
      · have := o_lt z; omega
      · omega
    rw [tx]
    refine ok_ite (fun c => ?_) (fun c => ?_)
    · have c1 := o_lt c
      exact mid (by omega)
    · have c1 := o_nlt c
      refine ok_at om ?_
      refine ok_gd (fun z => ?_) ?_
      · rcases z with z | z
        · have := o_lt z; omega
        · omega
      rw [ty]
      refine ok_ite (fun _ => ok_some rfl) (fun c2 => ?_)
      have c3 := o_nle c2
      exact mid (by omega)
set_option maxHeartbeats 4000000 in
theorem f12_runs {ad : List Nat} {h : hp} (L : Lay TLx ad h) {δ0 : dp} {N : Nat} (hNN : 10000000 ≤ N) {a0 : Nat} {x1 x2 : Int32} (ka : q_K h.1 a0 = 12) {δ : dp} (I : RI ad h.1 δ0 δ) (S : ∀ K, K < 4 → hok ad a0 δ K) : ok (D_X12_runs N h.1 a0 x1 x2 δ) (fun r => HO ad a0 h.1 δ0 δ r.2) := by
  have out : ∀ (v : Int32) (d : dp), RI ad h.1 δ0 d → kp [(12, 0)] δ d → kr ad [100] δ d → ok (some (v, d)) (fun r => HO ad a0 h.1 δ0 δ r.2) := fun v d i u w => ok_some ⟨i, kp_w (by decide) u, kr_w (by decide) w, fun K hK => hok_k u w (S K hK)⟩
  have e0 : (0 : Int32).toInt = 0 := rfl
  unfold D_X12_runs
  refine ok_bdv (fun d1 e1 => ?_)
  have i1 : RI ad h.1 δ0 d1 := by rw [e1]; exact cs_12_0 L I
  have u1 := kp_I kp_r e1
  have w1 := kr_N (ad := ad) (W := []) (δ := δ) kr_r (show q_R d1 = q_R δ by rw [e1]; rfl)
  refine ok_bind (k_X12_isHouse L hNN (a0 := a0) (x1 := x1) (x2 := 1) ka (by decide) i1) (fun r2 hr2 => ?_)
  obtain ⟨i2, ⟨u2, v2, w2⟩, b2, g2⟩ := hr2
  have u2' : kp [(12, 0)] δ r2.2 := kp_w (by decide) (kp_t u1 u2)
  have w2' : kr ad [100] δ r2.2 := kr_w (by decide) (kr_t w1 w2)
  refine ok_ite (fun _ => ?_) (fun c2 => ?_)
  · unfold J_X12_runs_23; exact out 0 _ i2 u2' w2'
  refine ok_bind (k_X12_isHouse L hNN (a0 := a0) (x1 := x2) (x2 := 1) ka (by decide) i2) (fun r3 hr3 => ?_)
  obtain ⟨i3, ⟨u3, v3, w3⟩, b3, g3⟩ := hr3
  have u3' : kp [(12, 0)] δ r3.2 := kp_w (by decide) (kp_t u2' u3)
  have w3' : kr ad [100] δ r3.2 := kr_w (by decide) (kr_t w2' w3)
  refine ok_ite (fun _ => ?_) (fun c3 => ?_)
  · unfold J_X12_runs_23; exact out 0 _ i3 u3' w3'
  have n2 := bo_l b2
  have n3 := bo_l b3
  have m2 := o_ne c2
  have m3 := o_ne c3
  have hx := g2 (by omega)
  have hy := g3 (by omega)
  obtain ⟨A, hA⟩ : ∃ A : Nat, x1.toInt = (A : Int) := ⟨x1.toInt.toNat, by omega⟩
  obtain ⟨B, hB⟩ : ∃ B : Nat, x2.toInt = (B : Int) := ⟨x2.toInt.toNat, by omega⟩
  have SA := hok_k u3' w3' (S A (by omega))
  have SB := hok_k u3' w3' (S B (by omega))
  have bA : -1000 ≤ hM ad r3.2 A ∧ hM ad r3.2 A ≤ 2000 := rb_103 L i3 A
  have bB : -1000 ≤ hM ad r3.2 B ∧ hM ad r3.2 B ≤ 2000 := rb_103 L i3 B
  have sA := SA.1.1
  have sB := SB.1.1
  refine ok_mono (fl_runs L hNN ka hA (by omega) hB (by omega) i3 SA SB N 0 0 0 (-1) 0 0 (by omega) (by omega) (by omega) (by omega) (by omega)) (fun r4 hr4 => ?_)
  rw [hr4]
  exact ⟨i3, kp_w (by decide) u3', kr_w (by decide) w3', fun K hK => hok_k u3' w3' (S K hK)⟩
theorem f12_isNumber {ad : List Nat} {h : hp} (L : Lay TLx ad h) {δ0 : dp} {N : Nat} (hNN : 10000000 ≤ N) {a0 : Nat} {x1 : Int32} (ka : q_K h.1 a0 = 12) {δ : dp} (I : RI ad h.1 δ0 δ) : ok (D_X12_isNumber N h.1 a0 x1 δ) (fun r => r.2 = δ ∧ bo r.1 ∧ (r.1.toInt = 1 → rg a0 δ x1)) := by
  have e0 : (0 : Int32).toInt = 0 := rfl
  have ab := all_b ka I
  unfold D_X12_isNumber
  rw [e_all, Option.bind_some]
  have t1 := te_subc (c := 1) (n := 1) rfl ((1 : Int32) <<< ((q_I δ 12 10 a0) &&& 31)) (by omega) (by omega)
  refine ok_bind (k_X12_within L hNN (x0 := x1) (x1 := 0) (x2 := (1 : Int32) <<< ((q_I δ 12 10 a0) &&& 31) - 1) I) (fun r hr => ?_)
  obtain ⟨e, b, g, _⟩ := hr
  rw [e]
  refine ok_gp b ?_
  refine ok_some ⟨rfl, b, fun z => ?_⟩
  have g1 := g z
  rw [e0] at g1
  exact ⟨g1.1, by omega⟩
set_option maxHeartbeats 4000000 in
theorem f12_put {ad : List Nat} {h : hp} (L : Lay TLx ad h) {δ0 : dp} {N : Nat} (hNN : 10000000 ≤ N) {a0 : Nat} {x1 x2 : Int32} (ka : q_K h.1 a0 = 12) {δ : dp} (I : RI ad h.1 δ0 δ) (S : ∀ K, K < 4 → hok ad a0 δ K) : ok (D_X12_put N h.1 a0 x1 x2 δ) (fun r => HO ad a0 h.1 δ0 δ r.2) := by
  have out : ∀ (v : Int32) (d : dp), RI ad h.1 δ0 d → kp [(12, 0)] δ d → kr ad [100] δ d → ok (some (v, d)) (fun r => HO ad a0 h.1 δ0 δ r.2) := fun v d i u w => ok_some ⟨i, kp_w (by decide) u, kr_w (by decide) w, fun K hK => hok_k u w (S K hK)⟩
  have e0 : (0 : Int32).toInt = 0 := rfl
  have f1000 : (1000 : Int32).toInt = 1000 := rfl
  have f2000 : (2000 : Int32).toInt = 2000 := rfl
  unfold D_X12_put
  refine ok_bdv (fun d1 e1 => ?_)
  have i1 : RI ad h.1 δ0 d1 := by rw [e1]; exact cs_12_0 L I
  have u1 := kp_I kp_r e1
  have w1 := kr_N (ad := ad) (W := []) (δ := δ) kr_r (show q_R d1 = q_R δ by rw [e1]; rfl)
  refine ok_bind (k_X12_isHouse L hNN (a0 := a0) (x1 := x1) (x2 := 1) ka (by decide) i1) (fun r2 hr2 => ?_)
  obtain ⟨i2, ⟨u2, v2, w2⟩, b2, g2⟩ := hr2
  have u2' : kp [(12, 0)] δ r2.2 := kp_w (by decide) (kp_t u1 u2)
  have w2' : kr ad [100] δ r2.2 := kr_w (by decide) (kr_t w1 w2)
  refine ok_ite (fun _ => ?_) (fun c2 => ?_)
  · unfold J_X12_put_28; exact out 0 _ i2 u2' w2'
  refine ok_bind (f12_isNumber L hNN (x1 := x2) ka i2) (fun r3 hr3 => ?_)
  obtain ⟨e3, b3, g3⟩ := hr3
  rw [e3]
  refine ok_bind (k_X12_may L hNN (a0 := a0) (x1 := r3.1) (x2 := 2) (x3 := 2) ka (by decide) (by decide) (by decide) i2) (fun r hr => ?_)
  obtain ⟨i4, ⟨u4, v4, w4⟩, b4, g4, _⟩ := hr
  have u4' : kp [(12, 0)] δ r.2 := kp_w (by decide) (kp_t u2' u4)
  have w4' : kr ad [100] δ r.2 := kr_w (by decide) (kr_t w2' w4)
  refine ok_ite (fun _ => ?_) (fun c4 => ?_)
  · unfold J_X12_put_28; exact out 0 _ i4 u4' w4'
  have n2 := bo_l b2
  have n3 := bo_l b3
  have n4 := bo_l b4
  have m2 := o_ne c2
  have m4 := o_ne c4
  have hx := g2 (by omega)
  have q4 := g4 (by omega)
  have rx2 : rg a0 r2.2 x2 := g3 (by omega)
  have rx : rg a0 r.2 x2 := (rg_k (u4 12 10 a0 (by decide))).mpr rx2
  obtain ⟨A, hA⟩ : ∃ A : Nat, x1.toInt = (A : Int) := ⟨x1.toInt.toNat, by omega⟩
  have tn := tnH hA
  have SO : ∀ K, K < 4 → hok ad a0 r.2 K := fun K hK => hok_k u4' w4' (S K hK)
  have SA := SO A (by omega)
  have hB : -1000 ≤ hM ad r.2 A ∧ hM ad r.2 A ≤ 2000 := rb_103 L i4 A
  have hB6 : 0 ≤ hN ad r.2 A ∧ hN ad r.2 A ≤ 1000 := rb_106 L i4 A
  have vA : (q_R r.2 (Ad ad 103) A).toInt = hM ad r.2 A := rfl
  have vN : (q_R r.2 (Ad ad 106) A).toInt = hN ad r.2 A := rfl
  obtain ⟨bm, om, _, nm⟩ := gO_12_14 L ka
  obtain rfl := gS_12_14 L ka om
  obtain ⟨bt, ot, _, nt⟩ := gO_12_17 L ka
  obtain rfl := gS_12_17 L ka ot
  refine ok_bind (f12_isThere L hNN (x := x2) ka hA (by omega) i4 SA.1) (fun r5 hr5 => ?_)
  obtain ⟨e5, hm⟩ := hr5
  rw [e5]
  rcases hm with ⟨e6, hm⟩ | ⟨e6, hm⟩
  · rw [e6]
    refine ok_ite (fun c => absurd c (by decide)) (fun _ => ?_)
    exact out 0 _ i4 u4' w4'
  · rw [e6]
    refine ok_ite (fun _ => ?_) (fun c => absurd rfl c)
    refine ok_at om ?_
    refine ok_gd (fun z => ?_) ?_
    · rcases z with z | z
      · have := o_lt z; omega
      · omega
    rw [tn]
    refine ok_ite (fun _ => out _ _ i4 u4' w4') (fun c7 => ?_)
    have m7 := o_ne c7
    refine ok_at ot ?_
    refine ok_gd (fun z => ?_) ?_
    · rcases z with z | z
      · have := o_lt z; omega
      · omega
    refine ok_ite (fun _ => out _ _ i4 u4' w4') (fun c8 => ?_)
    have m8 := o_ne c8
    have sm := SA.1.1
    obtain ⟨M, hMM⟩ : ∃ M : Nat, hM ad r.2 A = (M : Int) := ⟨(hM ad r.2 A).toNat, by omega⟩
    refine ok_bind (ok_and (k_X12_comes L hNN (a0 := a0) (x1 := x1) (x2 := x2) ka (by omega) (by omega) (by rw [tn]; show hM ad r.2 A < 2000; omega) i4) (f12_comes L hNN (x := x2) ka hA (by omega) i4 SA.1 hMM (by omega))) (fun r9 hr9 => ?_)
    obtain ⟨⟨i9, ⟨u9, v9, w9⟩, _⟩, p, P, D⟩ := hr9
    have pm : p ≤ M := by have := P.1; omega
    obtain ⟨S9, _, _, mb⟩ := hin_s SA.1 hMM (by omega) P hm D
    have n9 := w9 106 (by decide) (by decide) (by decide)
    have k9 := hin_k (by omega) pm D n9
    have nn : hN ad r9 A = hN ad r.2 A := by unfold hN; rw [n9]
    refine ok_bind (k_X12_notesDown L hNN (a0 := a0) (x1 := x1) (x2 := x2) (x3 := 1) ka (by omega) (by omega) (by rw [tn]; show hN ad r9 A < 1000; omega) i9) (fun r10 hr10 => ?_)
    obtain ⟨i10, ⟨u10, v10, w10⟩, _⟩ := hr10
    have g10 := fun K => h_all (K := K) (w10 102 (by decide) (by decide) (by decide)) (w10 103 (by decide) (by decide) (by decide))
    have eg : ∀ y, rg a0 r10 y ↔ rg a0 r.2 y := fun y => (rg_k (u10 12 10 a0 (by decide))).trans (rg_k (u9 12 10 a0 (by decide)))
    refine ok_some ⟨i10, kp_w (by decide) (kp_t (kp_t u4' u9) u10), kr_w (by decide) (kr_t (kr_t w4' w9) w10), fun K hK => ?_⟩
    by_cases eK : K = A
    · subst eK
      refine ⟨(g10 K).1 S9, fun y hy => (eg y).mpr ?_⟩
      rcases mb y (((g10 K).2 y).mp hy) with z | z
      · exact SA.2 y z
      · rw [z]; exact rx
    · have hBK : -1000 ≤ hM ad r.2 K ∧ hM ad r.2 K ≤ 2000 := rb_103 L i4 K
      refine ⟨(g10 K).1 (hsr_k (k9 K hK eK).1 hBK.2 (k9 K hK eK).2.2 (SO K hK).1), fun y hy => (eg y).mpr ((SO K hK).2 y ?_)⟩
      exact (hmem_k (k9 K hK eK).1 hBK.2 (k9 K hK eK).2.2).mp (((g10 K).2 y).mp hy)
set_option maxHeartbeats 4000000 in
theorem f12_drop {ad : List Nat} {h : hp} (L : Lay TLx ad h) {δ0 : dp} {N : Nat} (hNN : 10000000 ≤ N) {a0 : Nat} {x1 x2 : Int32} (ka : q_K h.1 a0 = 12) {δ : dp} (I : RI ad h.1 δ0 δ) (S : ∀ K, K < 4 → hok ad a0 δ K) : ok (D_X12_drop N h.1 a0 x1 x2 δ) (fun r => HO ad a0 h.1 δ0 δ r.2) := by
  have out : ∀ (v : Int32) (d : dp), RI ad h.1 δ0 d → kp [(12, 0)] δ d → kr ad [100] δ d → ok (some (v, d)) (fun r => HO ad a0 h.1 δ0 δ r.2) := fun v d i u w => ok_some ⟨i, kp_w (by decide) u, kr_w (by decide) w, fun K hK => hok_k u w (S K hK)⟩
  have e0 : (0 : Int32).toInt = 0 := rfl
  have f1000 : (1000 : Int32).toInt = 1000 := rfl
  unfold D_X12_drop
  refine ok_bdv (fun d1 e1 => ?_)
  have i1 : RI ad h.1 δ0 d1 := by rw [e1]; exact cs_12_0 L I
  have u1 := kp_I kp_r e1
  have w1 := kr_N (ad := ad) (W := []) (δ := δ) kr_r (show q_R d1 = q_R δ by rw [e1]; rfl)
  refine ok_bind (k_X12_isHouse L hNN (a0 := a0) (x1 := x1) (x2 := 1) ka (by decide) i1) (fun r2 hr2 => ?_)
  obtain ⟨i2, ⟨u2, v2, w2⟩, b2, g2⟩ := hr2
  have u2' : kp [(12, 0)] δ r2.2 := kp_w (by decide) (kp_t u1 u2)
  have w2' : kr ad [100] δ r2.2 := kr_w (by decide) (kr_t w1 w2)
  refine ok_ite (fun _ => ?_) (fun c2 => ?_)
  · unfold J_X12_drop_28; exact out 0 _ i2 u2' w2'
  refine ok_bind (k_X12_isNumber L hNN (a0 := a0) (x1 := x2) ka i2) (fun r3 hr3 => ?_)
  obtain ⟨e3, b3, _⟩ := hr3
  rw [e3]
  refine ok_bind (k_X12_may L hNN (a0 := a0) (x1 := r3.1) (x2 := 2) (x3 := 2) ka (by decide) (by decide) (by decide) i2) (fun r hr => ?_)
  obtain ⟨i4, ⟨u4, v4, w4⟩, b4, g4, _⟩ := hr
  have u4' : kp [(12, 0)] δ r.2 := kp_w (by decide) (kp_t u2' u4)
  have w4' : kr ad [100] δ r.2 := kr_w (by decide) (kr_t w2' w4)
  refine ok_ite (fun _ => ?_) (fun c4 => ?_)
  · unfold J_X12_drop_28; exact out 0 _ i4 u4' w4'
  have n2 := bo_l b2
  have m2 := o_ne c2
  have hx := g2 (by omega)
  obtain ⟨A, hA⟩ : ∃ A : Nat, x1.toInt = (A : Int) := ⟨x1.toInt.toNat, by omega⟩
  have tn := tnH hA
  have SO : ∀ K, K < 4 → hok ad a0 r.2 K := fun K hK => hok_k u4' w4' (S K hK)
  have SA := SO A (by omega)
  have hB : -1000 ≤ hM ad r.2 A ∧ hM ad r.2 A ≤ 2000 := rb_103 L i4 A
  have hB6 : 0 ≤ hN ad r.2 A ∧ hN ad r.2 A ≤ 1000 := rb_106 L i4 A
  have vN : (q_R r.2 (Ad ad 106) A).toInt = hN ad r.2 A := rfl
  obtain ⟨bt, ot, _, nt⟩ := gO_12_17 L ka
  obtain rfl := gS_12_17 L ka ot
  refine ok_bind (f12_isThere L hNN (x := x2) ka hA (by omega) i4 SA.1) (fun r5 hr5 => ?_)
  obtain ⟨e5, hm⟩ := hr5
  rw [e5]
  rcases hm with ⟨e6, hm⟩ | ⟨e6, hm⟩
  · rw [e6]
    refine ok_ite (fun c => absurd c (by decide)) (fun _ => ?_)
    refine ok_at ot ?_
    refine ok_gd (fun z => ?_) ?_
    · rcases z with z | z
      · have := o_lt z; omega
      · omega
    rw [tn]
    refine ok_ite (fun _ => out _ _ i4 u4' w4') (fun c8 => ?_)
    have m8 := o_ne c8
    have sm := SA.1.1
    obtain ⟨M, hMM⟩ : ∃ M : Nat, hM ad r.2 A = (M : Int) := ⟨(hM ad r.2 A).toNat, by omega⟩
    refine ok_bind (ok_and (k_X12_leaves L hNN (a0 := a0) (x1 := x1) (x2 := x2) ka (by omega) (by omega) (by rw [tn]; show -999 ≤ hM ad r.2 A; omega) i4) (f12_leaves L hNN (x := x2) ka hA (by omega) i4 SA.1 hMM hm)) (fun r9 hr9 => ?_)
    obtain ⟨⟨i9, ⟨u9, v9, w9⟩, _⟩, p, pM, _, D⟩ := hr9
    obtain ⟨S9, mb⟩ := hde_s SA.1 hMM (by omega) pM D
    have n9 := w9 106 (by decide) (by decide) (by decide)
    have k9 := hde_k (by omega) D n9
    have nn : hN ad r9 A = hN ad r.2 A := by unfold hN; rw [n9]
    refine ok_bind (k_X12_notesDown L hNN (a0 := a0) (x1 := x1) (x2 := x2) (x3 := 0) ka (by omega) (by omega) (by rw [tn]; show hN ad r9 A < 1000; omega) i9) (fun r10 hr10 => ?_)
    obtain ⟨i10, ⟨u10, v10, w10⟩, _⟩ := hr10
    have g10 := fun K => h_all (K := K) (w10 102 (by decide) (by decide) (by decide)) (w10 103 (by decide) (by decide) (by decide))
    have eg : ∀ y, rg a0 r10 y ↔ rg a0 r.2 y := fun y => (rg_k (u10 12 10 a0 (by decide))).trans (rg_k (u9 12 10 a0 (by decide)))
    refine ok_some ⟨i10, kp_w (by decide) (kp_t (kp_t u4' u9) u10), kr_w (by decide) (kr_t (kr_t w4' w9) w10), fun K hK => ?_⟩
    by_cases eK : K = A
    · subst eK
      exact ⟨(g10 K).1 S9, fun y hy => (eg y).mpr (SA.2 y (mb y (((g10 K).2 y).mp hy)))⟩
    · have hBK : -1000 ≤ hM ad r.2 K ∧ hM ad r.2 K ≤ 2000 := rb_103 L i4 K
      refine ⟨(g10 K).1 (hsr_k (k9 K hK eK).1 hBK.2 (k9 K hK eK).2.2 (SO K hK).1), fun y hy => (eg y).mpr ((SO K hK).2 y ?_)⟩
      exact (hmem_k (k9 K hK eK).1 hBK.2 (k9 K hK eK).2.2).mp (((g10 K).2 y).mp hy)
  · rw [e6]
    refine ok_ite (fun _ => ?_) (fun c => absurd rfl c)
    exact out 0 _ i4 u4' w4'
