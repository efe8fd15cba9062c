section
/-! the table read: the first call of each best row -/
set_option maxHeartbeats 4000000 in
theorem fl_207 {ad : List Nat} {h : hp} (L : Lay TLx ad h) {δ0 : dp} {N : Nat} (hN : 10000000 ≤ N) {a0 : Nat} (k_a0 : q_K h.1 a0 = 12) {δs : dp} (I : RI ad h.1 δ0 δs) {a : Nat} (ha : a = 4 ∨ a = 8 ∨ a = 16) (hA : ((1 : Int32) <<< (q_I δs 12 10 a0 &&& 31)).toInt = (a : Int)) {nn k : Nat} (hn : nn ≤ 6) (hk1 : k < nn) {x1 x3v x4v : Int32} {kt198 : Int32 → Int32 → dp → Option (dp)} {Q : dp → Prop} (e1 : x1.toInt = (nn : Int)) (e4 : x4v.toInt = (k : Int)) (s0 : 0 ≤ x3v.toInt) (s1 : x3v.toInt < ((2 ^ a : Nat) : Int)) (hp : pc 16 (un x3v) ≤ k) {qq : Int32} (qq0 : 0 ≤ qq.toInt) (qq1 : qq.toInt < 5 * (a : Int))
    (hk : ∀ δ' s x, x.toInt = x4v.toInt + 1 → 0 ≤ s.toInt → s.toInt < ((2 ^ a : Nat) : Int) → pc 16 (un s) ≤ k + 1 → FE ad h.1 δ0 δs δ' → fT (tvf N h.1 a0 δs) ((1 : Int32) <<< (q_I δs 12 10 a0 &&& 31)) a (q_R δ' (Ad ad 122)) nn nn → ok (kt198 s x δ') Q) :
    ∀ (n : Nat) (x5v : Int32) (δ : dp), FE ad h.1 δ0 δs δ → fT (tvf N h.1 a0 δs) ((1 : Int32) <<< (q_I δs 12 10 a0 &&& 31)) a (q_R δ (Ad ad 122)) nn nn → fV (tvf N h.1 a0 δs) ((1 : Int32) <<< (q_I δs 12 10 a0 &&& 31)) (q_R δ (Ad ad 122)) (nn - k) qq x3v = (q_R δ (Ad ad 122) (65536 * (nn - k) + x3v.toInt.toNat)).toInt → 0 ≤ x5v.toInt → x5v.toInt ≤ qq.toInt → qq.toInt - x5v.toInt < (n : Int) → ok (L_X12_findRow_207 N h.1 a0 x1 kt198 n x3v x4v x5v δ) Q := by
  obtain ⟨b1, o1, _, n1, _⟩ := gO_12_43 L k_a0
  obtain rfl := gS_12_43 L k_a0 o1
  obtain ⟨b2, o2, _, n2, _⟩ := gO_12_44 L k_a0
  obtain rfl := gS_12_44 L k_a0 o2
  have hp2 : 2 ^ a ≤ 65536 := by rcases ha with rfl | rfl | rfl <;> decide
  have ha16 : a ≤ 16 := by omega
  have hA0 : ¬ ((1 : Int32) <<< (q_I δs 12 10 a0 &&& 31)) = 0 := fun z => by
    have z1 := o_eq z
    have z0 : (0 : Int32).toInt = 0 := rfl
    omega
  have z0 : (0 : Int32).toInt = 0 := rfl
  have j0 := te_sub x1 x4v (by omega) (by omega)
  have j1 := te_subc (c := 1) (n := 1) rfl (x1 - x4v) (by omega) (by omega)
  have j2 := te_mulc (c := 65536) (n := 65536) rfl (x1 - x4v - 1) (by omega) (by omega)
  have j3 := te_mulc (c := 65536) (n := 65536) rfl (x1 - x4v) (by omega) (by omega)
  have j4 := te_add ((65536 : Int32) * (x1 - x4v)) x3v (by omega) (by omega)
  have j5 := ti_tn (((65536 : Int32) * (x1 - x4v)) + x3v)
  have t4 := ti_tn x4v
  intro n
  induction n with
  | zero => intro x5v δ F T e q0 q1 hm; exfalso; omega
  | succ n ih =>
    intro x5v δ F T e q0 q1 hm
    unfold L_X12_findRow_207
    refine ok_at (fe_all F) ?_
    dsimp only
    refine ok_gd hA0 ?_
    refine ok_at (fe_all F) ?_
    dsimp only
    refine ok_gd hA0 ?_
    refine ok_bind (fe_ts L hN (c := x5v / ((1 : Int32) <<< (q_I δs 12 10 a0 &&& 31))) (x := x5v - x5v / ((1 : Int32) <<< (q_I δs 12 10 a0 &&& 31)) * ((1 : Int32) <<< (q_I δs 12 10 a0 &&& 31))) (s := x3v) k_a0 (qc4 ha hA q0 (by omega)).1 (qc4 ha hA q0 (by omega)).2 I F) (fun r hr => ?_)
    obtain ⟨v1, v2, v3, F2, fr⟩ := hr
    refine ok_at o1 ?_
    refine ok_at (fe_all F2) ?_
    dsimp only
    refine ok_gd hA0 ?_
    refine ok_at (fe_all F2) ?_
    dsimp only
    refine ok_gd hA0 ?_
    refine ok_at behind_eq ?_
    dsimp only
    have hqx := qx ha hA q0 (by omega)
    have hb := bh_r (a := a) ha16 (x5v / ((1 : Int32) <<< (q_I δs 12 10 a0 &&& 31))) s0 s1 hqx.1 hqx.2
    have i2 := te_add ((65536 : Int32) * (x1 - x4v - 1)) (bh (x5v / ((1 : Int32) <<< (q_I δs 12 10 a0 &&& 31))) (x5v - x5v / ((1 : Int32) <<< (q_I δs 12 10 a0 &&& 31)) * ((1 : Int32) <<< (q_I δs 12 10 a0 &&& 31))) x3v) (by omega) (by omega)
    have i3 := ti_tn (((65536 : Int32) * (x1 - x4v - 1)) + (bh (x5v / ((1 : Int32) <<< (q_I δs 12 10 a0 &&& 31))) (x5v - x5v / ((1 : Int32) <<< (q_I δs 12 10 a0 &&& 31)) * ((1 : Int32) <<< (q_I δs 12 10 a0 &&& 31))) x3v))
    refine ok_gd (fun z => ?_) ?_
    · rcases z with z | z
      · have := o_lt z; omega
      · rw [n1] at z; omega
    refine ok_at o1 ?_
    refine ok_gd (fun z => ?_) ?_
    · rcases z with z | z
      · have := o_lt z; omega
      · rw [n1] at z; omega
    have T2 : fT (tvf N h.1 a0 δs) ((1 : Int32) <<< (q_I δs 12 10 a0 &&& 31)) a (q_R r.2 (Ad ad 122)) nn nn := by rw [fr]; exact T
    refine ok_ite (fun c => ?_) (fun c => ?_)
    · refine ok_at o2 ?_
      refine ok_gd (fun z => ?_) ?_
      · rcases z with z | z
        · have := o_lt z; omega
        · rw [n2] at z; omega
      refine ok_bdv (fun d ed => ?_)
      obtain ⟨F3, fr3⟩ := fe_w3 L F2 ed
      refine ok_at (fe_all F3) ?_
      dsimp only
      refine ok_gd hA0 ?_
      refine ok_at (fe_all F3) ?_
      dsimp only
      refine ok_gd hA0 ?_
      refine ok_at behind_eq ?_
      dsimp only
      refine ok_biv (fun x ex => ?_)
      have hx := te_addc (c := 1) (n := 1) rfl x4v (by omega) (by omega)
      rw [← ex] at hx
      exact hk d _ x (by omega) hb.1 hb.2.1 (by omega) F3 (by rw [fr3]; exact T2)
    · refine ok_biv (fun x ex => ?_)
      have hx := te_addc (c := 1) (n := 1) rfl x5v (by omega) (by omega)
      rw [← ex] at hx
      have hne : x5v.toInt ≠ qq.toInt := by
        intro z
        have hz : x5v = qq := i_eq z
        apply c
        rw [← hz] at e
        have hix : (((65536 : Int32) * (x1 - x4v - 1)) + (bh (x5v / ((1 : Int32) <<< (q_I δs 12 10 a0 &&& 31))) (x5v - x5v / ((1 : Int32) <<< (q_I δs 12 10 a0 &&& 31)) * ((1 : Int32) <<< (q_I δs 12 10 a0 &&& 31))) x3v)).toNatClampNeg = 65536 * (nn - k - 1) + (bh (x5v / ((1 : Int32) <<< (q_I δs 12 10 a0 &&& 31))) (x5v - x5v / ((1 : Int32) <<< (q_I δs 12 10 a0 &&& 31)) * ((1 : Int32) <<< (q_I δs 12 10 a0 &&& 31))) x3v).toInt.toNat := by omega
        have hix2 : (((65536 : Int32) * (x1 - x4v)) + x3v).toNatClampNeg = 65536 * (nn - k) + x3v.toInt.toNat := by omega
        rw [hix, hix2, fr]
        have hv := fV_b ha hA (l := nn - k) (n := nn) (by omega) (fun l' hl' => T l' (by omega)) s0 s1 (by omega) q0 (by omega)
        apply i_eq
        have hy := te_add r.1 (q_R δ (Ad ad 122) (65536 * (nn - k - 1) + (bh (x5v / ((1 : Int32) <<< (q_I δs 12 10 a0 &&& 31))) (x5v - x5v / ((1 : Int32) <<< (q_I δs 12 10 a0 &&& 31)) * ((1 : Int32) <<< (q_I δs 12 10 a0 &&& 31))) x3v).toInt.toNat)) (by omega) (by omega)
        rw [hy.1, ← e]
        unfold fV
        rw [v1]
      refine ih x r.2 F2 T2 (by rw [fr]; exact e) (by omega) (by omega) (by omega)
set_option maxHeartbeats 4000000 in
theorem fl_198 {ad : List Nat} {h : hp} (L : Lay TLx ad h) {δ0 : dp} {N : Nat} (hN : 10000000 ≤ N) {a0 : Nat} (k_a0 : q_K h.1 a0 = 12) {δs : dp} (I : RI ad h.1 δ0 δs) {a : Nat} (ha : a = 4 ∨ a = 8 ∨ a = 16) (hA : ((1 : Int32) <<< (q_I δs 12 10 a0 &&& 31)).toInt = (a : Int)) {nn : Nat} (hn : nn ≤ 6) {x1 : Int32} (e1 : x1.toInt = (nn : Int)) :
    ∀ (n : Nat) (k : Nat) (x3v x4v : Int32) (δ : dp), x4v.toInt = (k : Int) → k ≤ nn → 0 ≤ x3v.toInt → x3v.toInt < ((2 ^ a : Nat) : Int) → pc 16 (un x3v) ≤ k → FE ad h.1 δ0 δs δ → fT (tvf N h.1 a0 δs) ((1 : Int32) <<< (q_I δs 12 10 a0 &&& 31)) a (q_R δ (Ad ad 122)) nn nn → nn - k < n → ok (L_X12_findRow_198 N h.1 a0 x1 n x3v x4v δ) (fun r => FE ad h.1 δ0 δs r) := by
  intro n
  induction n with
  | zero => intro k x3v x4v δ _ _ _ _ _ _ _ hm; exfalso; omega
  | succ n ih =>
    intro k x3v x4v δ e4 hk s0 s1 hp F T hm
    unfold L_X12_findRow_198
    refine ok_ite (fun c => ok_some F) (fun c => ?_)
    have c1 := o_nle c
    have z0 : (0 : Int32).toInt = 0 := rfl
    have ha16 : a ≤ 16 := by omega
    obtain ⟨_, _, g3⟩ := T (nn - k) (by omega) x3v s0 s1 (by omega)
    obtain ⟨qq, qq0, qq1, qe⟩ := g3 (by omega)
    exact fl_207 L hN k_a0 I ha hA hn (k := k) (by omega) e1 e4 s0 s1 hp qq0 qq1 (fun δ' s x hx t0 t1 tp F' T' => ih (k + 1) s x δ' (by omega) (by omega) t0 t1 tp F' T' (by omega)) N 0 δ F T qe (by decide) (by omega) (by omega)
set_option maxHeartbeats 4000000 in
theorem fl_37 {ad : List Nat} {h : hp} (L : Lay TLx ad h) {δ0 : dp} {N : Nat} (hN : 10000000 ≤ N) {a0 : Nat} (k_a0 : q_K h.1 a0 = 12) {δs : dp} (I : RI ad h.1 δ0 δs) {a : Nat} (ha : a = 4 ∨ a = 8 ∨ a = 16) (hA : ((1 : Int32) <<< (q_I δs 12 10 a0 &&& 31)).toInt = (a : Int)) {nn l : Nat} (hn : nn ≤ 6) (hl : 1 ≤ l) (hln : l ≤ nn) {x1 x2v x3v : Int32} {kt29 : Int32 → Int32 → dp → Option (dp)} {Q : dp → Prop} (e1 : x1.toInt = (nn : Int)) (e2 : x2v.toInt = ((2 ^ a : Nat) : Int)) (e3 : x3v.toInt = (l : Int))
    (hk : ∀ δ' x, x.toInt = x3v.toInt + 1 → FE ad h.1 δ0 δs δ' → fT (tvf N h.1 a0 δs) ((1 : Int32) <<< (q_I δs 12 10 a0 &&& 31)) a (q_R δ' (Ad ad 122)) nn l → ok (kt29 x2v x δ') Q) :
    ∀ (n : Nat) (x4v : Int32) (δ : dp), 0 ≤ x4v.toInt → x4v.toInt ≤ ((2 ^ a : Nat) : Int) → FE ad h.1 δ0 δs δ → fT (tvf N h.1 a0 δs) ((1 : Int32) <<< (q_I δs 12 10 a0 &&& 31)) a (q_R δ (Ad ad 122)) nn (l - 1) → (∀ s : Int32, 0 ≤ s.toInt → s.toInt < x4v.toInt → pc 16 (un s) + l ≤ nn → fG (tvf N h.1 a0 δs) ((1 : Int32) <<< (q_I δs 12 10 a0 &&& 31)) a (q_R δ (Ad ad 122)) l s) → ((2 ^ a : Nat) : Int) - x4v.toInt < (n : Int) → ok (L_X12_findRow_37 N h.1 a0 x1 kt29 n x2v x3v x4v δ) Q := by
  have hp2 : 2 ^ a ≤ 65536 := by rcases ha with rfl | rfl | rfl <;> decide
  have z0 : (0 : Int32).toInt = 0 := rfl
  intro n
  induction n with
  | zero => intro x4v δ s0 s1 F T P hm; exfalso; omega
  | succ n ih =>
    intro x4v δ s0 s1 F T P hm
    unfold L_X12_findRow_37
    refine ok_ite (fun c => ?_) (fun c => ?_)
    · have c1 := o_le c
      refine ok_biv (fun x ex => ?_)
      have hx := te_addc (c := 1) (n := 1) rfl x3v (by omega) (by omega)
      rw [← ex] at hx
      refine hk δ x (by omega) F (fun l' hl' s t0 t1 tp => ?_)
      by_cases c2 : l' ≤ l - 1
      · exact T l' c2 s t0 t1 tp
      · obtain rfl : l' = l := by omega
        exact P s t0 (by omega) tp
    · have c1 := o_nle c
      refine ok_bind (f_ones hN (x0 := x4v) s0 (by omega)) (fun r hr => ?_)
      obtain ⟨r1, r2⟩ := hr
      rw [r1]
      have j0 := te_sub x1 x3v (by omega) (by omega)
      have hx := te_addc (c := 1) (n := 1) rfl x4v (by omega) (by omega)
      refine ok_ite (fun c => ?_) (fun c => ?_)
      · have c2 := o_le c
        refine fl_63 L hN k_a0 I ha hA hn hl hln e3 s0 (by omega) (by omega) (fun δ' x hx F' T' P' => ?_) N 0 0 δ F T P (by decide) (by omega) (by decide) (by omega) (Or.inl ⟨rfl, rfl⟩) (by omega)
        exact ih x δ' (by omega) (by omega) F' T' (fun s t0 t1 tp => P' s t0 (by omega) tp) (by omega)
      · have c2 := o_nle c
        unfold J_X12_findRow_167
        refine ok_biv (fun x ex => ?_)
        rw [← ex] at hx
        refine ih x δ (by omega) (by omega) F T (fun s t0 t1 tp => ?_) (by omega)
        by_cases cs : s.toInt = x4v.toInt
        · have : s = x4v := i_eq cs
          subst this
          exfalso; omega
        · exact P s t0 (by omega) tp
set_option maxHeartbeats 4000000 in
theorem fl_29 {ad : List Nat} {h : hp} (L : Lay TLx ad h) {δ0 : dp} {N : Nat} (hN : 10000000 ≤ N) {a0 : Nat} (k_a0 : q_K h.1 a0 = 12) {δs : dp} (I : RI ad h.1 δ0 δs) {a : Nat} (ha : a = 4 ∨ a = 8 ∨ a = 16) (hA : ((1 : Int32) <<< (q_I δs 12 10 a0 &&& 31)).toInt = (a : Int)) {nn : Nat} (hn : nn ≤ 6) {x1 x2v : Int32} (e1 : x1.toInt = (nn : Int)) (e2 : x2v.toInt = ((2 ^ a : Nat) : Int)) :
    ∀ (n : Nat) (l : Nat) (x3v : Int32) (δ : dp), x3v.toInt = (l : Int) → 1 ≤ l → l ≤ nn + 1 → FE ad h.1 δ0 δs δ → fT (tvf N h.1 a0 δs) ((1 : Int32) <<< (q_I δs 12 10 a0 &&& 31)) a (q_R δ (Ad ad 122)) nn (l - 1) → nn + 1 - l < n → ok (L_X12_findRow_29 N h.1 a0 x1 n x2v x3v δ) (fun r => FE ad h.1 δ0 δs r) := by
  have hp2 : 2 ^ a ≤ 65536 := by rcases ha with rfl | rfl | rfl <;> decide
  have hp0 : 0 < 2 ^ a := Nat.two_pow_pos a
  have z0 : (0 : Int32).toInt = 0 := rfl
  obtain ⟨b1, o1, _, n1, _⟩ := gO_12_43 L k_a0
  obtain rfl := gS_12_43 L k_a0 o1
  intro n
  induction n with
  | zero => intro l x3v δ _ _ _ _ _ hm; exfalso; omega
  | succ n ih =>
    intro l x3v δ e3 l1 l2 F T hm
    unfold L_X12_findRow_29
    refine ok_ite (fun c => ?_) (fun c => ?_)
    · have c1 := o_lt c
      refine ok_at o1 ?_
      have i1 := te_mulc (c := 65536) (n := 65536) rfl x1 (by omega) (by omega)
      have i3 := ti_tn ((65536 : Int32) * x1)
      refine ok_gd (fun z => ?_) ?_
      · rcases z with z | z
        · have := o_lt z; omega
        · rw [n1] at z; omega
      refine ok_bdv (fun d ed => ?_)
      obtain ⟨F3, fr3⟩ := fe_w5 L F ed
      rw [show l - 1 = nn by omega] at T
      exact fl_198 L hN k_a0 I ha hA hn e1 N 0 0 0 d rfl (by omega) (by decide) (by omega) (by rw [show un 0 = 0 from rfl, pc_0]; omega) F3 (by rw [fr3]; exact T) (by omega)
    · have c1 := o_nlt c
      refine fl_37 L hN k_a0 I ha hA hn l1 (by omega) e1 e2 e3 (fun δ' x hx F' T' => ih (l + 1) x δ' (by omega) (by omega) (by omega) F' T' (by omega)) N 0 δ (by decide) (by omega) F T (fun s t0 t1 tp => by exfalso; omega) (by omega)
set_option maxHeartbeats 4000000 in
theorem fl_9 {ad : List Nat} {h : hp} (L : Lay TLx ad h) {δ0 : dp} {N : Nat} (hN : 10000000 ≤ N) {a0 : Nat} (k_a0 : q_K h.1 a0 = 12) {δs : dp} (I : RI ad h.1 δ0 δs) {a : Nat} (ha : a = 4 ∨ a = 8 ∨ a = 16) (hA : ((1 : Int32) <<< (q_I δs 12 10 a0 &&& 31)).toInt = (a : Int)) {nn : Nat} (hn : nn ≤ 6) {x1 x2v : Int32} (e1 : x1.toInt = (nn : Int)) (e2 : x2v.toInt = ((2 ^ a : Nat) : Int)) :
    ∀ (n : Nat) (x3v : Int32) (δ : dp), 0 ≤ x3v.toInt → x3v.toInt ≤ ((2 ^ a : Nat) : Int) → FE ad h.1 δ0 δs δ → (∀ i : Nat, (i : Int) < x3v.toInt → (q_R δ (Ad ad 122) i).toInt = 0) → ((2 ^ a : Nat) : Int) - x3v.toInt < (n : Int) → ok (L_X12_findRow_9 N h.1 a0 x1 n x2v x3v δ) (fun r => FE ad h.1 δ0 δs r) := by
  have hp2 : 2 ^ a ≤ 65536 := by rcases ha with rfl | rfl | rfl <;> decide
  have z0 : (0 : Int32).toInt = 0 := rfl
  obtain ⟨b1, o1, _, n1, _⟩ := gO_12_43 L k_a0
  obtain rfl := gS_12_43 L k_a0 o1
  intro n
  induction n with
  | zero => intro x3v δ _ _ _ _ hm; exfalso; omega
  | succ n ih =>
    intro x3v δ s0 s1 F P hm
    unfold L_X12_findRow_9
    refine ok_ite (fun c => ?_) (fun c => ?_)
    · have c1 := o_le c
      refine fl_29 L hN k_a0 I ha hA hn e1 e2 N 1 1 δ rfl (by omega) (by omega) F (fun l' hl' s t0 t1 tp => ?_) (by omega)
      obtain rfl : l' = 0 := by omega
      have := P (65536 * 0 + s.toInt.toNat) (by omega)
      exact ⟨by omega, by omega, fun z => by omega⟩
    · have c1 := o_nle c
      refine ok_at o1 ?_
      have i3 := ti_tn x3v
      refine ok_gd (fun z => ?_) ?_
      · rcases z with z | z
        · have := o_lt z; omega
        · rw [n1] at z; omega
      refine ok_bdv (fun d ed => ?_)
      refine ok_biv (fun x ex => ?_)
      have hx := te_addc (c := 1) (n := 1) rfl x3v (by omega) (by omega)
      rw [← ex] at hx
      refine ih x d (by omega) (by omega) (fe_w2 L F ed) (fun i hi => ?_) (by omega)
      rw [ed, qR_sR]
      by_cases c : i = x3v.toNatClampNeg
      · rw [if_pos ⟨rfl, c⟩]; rfl
      · rw [if_neg (fun z => c z.2)]
        exact P i (by omega)
theorem k_X12_findRow {ad : List Nat} {h : hp} (L : Lay TLx ad h) {δ0 : dp} {N : Nat} (hN : 10000000 ≤ N) {a0 : Nat} {x1 : Int32} (k_a0 : q_K h.1 a0 = 12) {δ : dp} (z0 : (q_I δ 12 10 a0).toInt ≤ 4) (z1 : 1 ≤ (x1).toInt) (z2 : (x1).toInt ≤ 6) (I : RI ad h.1 δ0 δ) : ok (D_X12_findRow N h.1 a0 x1 δ) (fun r => RI ad h.1 δ0 r ∧ (kp [(12, 36), (12, 45)] δ r ∧ q_V r = q_V δ ∧ kr ad [119, 122, 123] δ r)) := by
  have F : FE ad h.1 δ0 δ δ := ⟨I, fun _ _ _ _ => rfl, rfl, fun _ _ _ _ => rfl⟩
  have b := cb_12_10 I k_a0
  have e0 : (0 : Int32).toInt = 0 := rfl
  have H : ∃ a : Nat, (a = 4 ∨ a = 8 ∨ a = 16) ∧ ((1 : Int32) <<< (q_I δ 12 10 a0 &&& 31)).toInt = (a : Int) ∧ ((1 : Int32) <<< (((1 : Int32) <<< (q_I δ 12 10 a0 &&& 31)) &&& 31)).toInt = ((2 ^ a : Nat) : Int) := by
    rcases (show (q_I δ 12 10 a0).toInt = 2 ∨ (q_I δ 12 10 a0).toInt = 3 ∨ (q_I δ 12 10 a0).toInt = 4 by omega) with e | e | e
    · rw [show q_I δ 12 10 a0 = 2 from i_eq e]; exact ⟨4, by omega, by decide, by decide⟩
    · rw [show q_I δ 12 10 a0 = 3 from i_eq e]; exact ⟨8, by omega, by decide, by decide⟩
    · rw [show q_I δ 12 10 a0 = 4 from i_eq e]; exact ⟨16, by omega, by decide, by decide⟩
  obtain ⟨a, ha, hA, hS⟩ := H
  unfold D_X12_findRow
  refine ok_at (fe_all F) ?_
  dsimp only
  refine ok_biv (fun x ex => ?_)
  have hp2 : 2 ^ a ≤ 65536 := by rcases ha with rfl | rfl | rfl <;> decide
  have hp0 : 0 < 2 ^ a := Nat.two_pow_pos a
  exact fl_9 L hN k_a0 I ha hA (nn := x1.toInt.toNat) (by omega) (by omega) (by rw [ex]; exact hS) N 0 δ (by decide) (by omega) F (fun i hi => by omega) (by omega)
end
section
/-! 79.zd.rows (by gen_safe.py) -/
set_option maxHeartbeats 4000000 in
theorem k_X12_rows {ad : List Nat} {h : hp} (L : Lay TLx ad h) {δ0 : dp} {N : Nat} (hN : 10000000 ≤ N) {a0 : Nat} {x1 : Int32} (k_a0 : q_K h.1 a0 = 12) {δ : dp} (z0 : 1 ≤ (x1).toInt) (z1 : (x1).toInt ≤ 6) (I : RI ad h.1 δ0 δ) : ok (D_X12_rows N h.1 a0 x1 δ) (fun r => RI ad h.1 δ0 r ∧ (kp [(12, 36), (12, 45)] δ r ∧ q_V r = q_V δ ∧ kr ad [119, 122, 123] δ r)) := by
  unfold D_X12_rows
  have f1 := ti_b x1
  have f2 := cb_12_10 I k_a0
  refine ok_ite (fun h3 => ?_) (fun h3 => ?_)
  · have c4 : (4 : Int) < (q_I δ 12 10 a0).toInt := o_lt h3
    refine ok_bind (k_X12_findTwo L hN (a0 := a0) (x1 := x1) k_a0 I) (fun r5 hr6 => ?_)
    obtain ⟨i7, ⟨u8, u9, u10⟩⟩ := hr6
    have u11 := kp_t kp_r u8
    have v12 : q_V r5 = q_V δ := (u9).trans rfl
    have v13 := kr_t (kr_r (ad := ad)) u10
    unfold J_X12_rows_21
    exact ok_some (show RI ad h.1 δ0 r5 ∧ (kp [(12, 36), (12, 45)] δ r5 ∧ q_V r5 = q_V δ ∧ kr ad [119, 122, 123] δ r5) from ⟨i7, ⟨kp_w (by decide) u11, v12, kr_w (by decide) v13⟩⟩)
  · have c14 : (q_I δ 12 10 a0).toInt ≤ (4 : Int) := o_nlt h3
    refine ok_bind (k_X12_findRow L hN (a0 := a0) (x1 := x1) k_a0 (show (q_I δ 12 10 a0).toInt ≤ 4 by first | with_reducible assumption | omega) (show 1 ≤ (x1).toInt by first | with_reducible assumption | omega) (show (x1).toInt ≤ 6 by first | with_reducible assumption | omega) I) (fun r15 hr16 => ?_)
    obtain ⟨i17, ⟨u18, u19, u20⟩⟩ := hr16
    have u21 := kp_t kp_r u18
    have v22 : q_V r15 = q_V δ := (u19).trans rfl
    have v23 := kr_t (kr_r (ad := ad)) u20
    unfold J_X12_rows_21
    exact ok_some (show RI ad h.1 δ0 r15 ∧ (kp [(12, 36), (12, 45)] δ r15 ∧ q_V r15 = q_V δ ∧ kr ad [119, 122, 123] δ r15) from ⟨i17, ⟨kp_w (by decide) u21, v22, kr_w (by decide) v23⟩⟩)
set_option maxHeartbeats 4000000 in
theorem k_X12_row {ad : List Nat} {h : hp} (L : Lay TLx ad h) {δ0 : dp} {N : Nat} (hN : 10000000 ≤ N) {a0 : Nat} {x1 : Int32} (k_a0 : q_K h.1 a0 = 12) {δ : dp} (I : RI ad h.1 δ0 δ) : ok (D_X12_row N h.1 a0 x1 δ) (fun r => RI ad h.1 δ0 r.2 ∧ (kp [(12, 0), (12, 36), (12, 45)] δ r.2 ∧ q_V r.2 = q_V δ ∧ kr ad [100, 119, 122, 123] δ r.2)) := by
  unfold D_X12_row
  refine ok_bdv (fun d1 e2 => ?_)
  have i3 : RI ad h.1 δ0 d1 := by rw [e2]; exact cs_12_0 L I
  have u4 := kp_I kp_r e2
  have v5 : q_V d1 = q_V δ := ((show q_V d1 = q_V δ by rw [e2]; rfl)).trans rfl
  have v6 := kr_N (kr_r (ad := ad)) (show q_R d1 = q_R δ by rw [e2]; rfl)
  refine ok_bind (k_X12_isRow L hN (a0 := a0) (x1 := x1) k_a0 i3) (fun r7 hr8 => ?_)
  obtain ⟨i9, p10, p11, p12⟩ := hr8
  try rw [i9]
  have f13 := bo_l p10
  have f14 := ti_b r7.1
  have f15 := ti_b x1
  have f16 : (q_I d1 12 10 a0).toInt = (q_I δ 12 10 a0).toInt := congrArg Int32.toInt (by rw [e2]; exact rI_o (by decide))
  have f17 := cb_12_10 I k_a0
  refine ok_bind (k_X12_may L hN (a0 := a0) (x1 := r7.1) (x2 := (1 : Int32)) (x3 := (2 : Int32)) k_a0 (show (1 : Int) ≠ 0 by first | with_reducible assumption | omega) (show 0 ≤ (2 : Int) by first | with_reducible assumption | omega) (show (2 : Int) ≤ 2 by first | with_reducible assumption | omega) i3) (fun r18 hr19 => ?_)
  obtain ⟨i20, ⟨u24, u25, u26⟩, p21, p22, p23⟩ := hr19
  have u27 := kp_t u4 u24
  have v28 : q_V r18.2 = q_V δ := (u25).trans v5
  have v29 := kr_t v6 u26
  have f30 := bo_l p21
  have f31 := ti_b r18.1
  have f32 := ti_b (q_I d1 12 0 a0)
  have f33 : (q_I d1 12 0 a0).toInt = (0 : Int) := congrArg Int32.toInt (show q_I d1 12 0 a0 = (0 : Int32) by rw [e2]; exact rI_s)
  refine ok_ite (fun h34 => ?_) (fun h34 => ?_)
  · have c35 : r18.1.toInt = (0 : Int) := o_eq h34
    exact ok_some (show RI ad h.1 δ0 r18.2 ∧ (kp [(12, 0), (12, 36), (12, 45)] δ r18.2 ∧ q_V r18.2 = q_V δ ∧ kr ad [100, 119, 122, 123] δ r18.2) from ⟨i20, ⟨kp_w (by decide) u27, v28, kr_w (by decide) v29⟩⟩)
  · have c36 : r18.1.toInt ≠ (0 : Int) := o_ne h34
    refine ok_bind (k_X12_rows L hN (a0 := a0) (x1 := x1) k_a0 (show 1 ≤ (x1).toInt by first | with_reducible assumption | omega) (show (x1).toInt ≤ 6 by first | with_reducible assumption | omega) i20) (fun r37 hr38 => ?_)
    obtain ⟨i39, ⟨u40, u41, u42⟩⟩ := hr38
    have u43 := kp_t u27 u40
    have v44 : q_V r37 = q_V δ := (u41).trans v28
    have v45 := kr_t v29 u42
    exact ok_some (show RI ad h.1 δ0 r37 ∧ (kp [(12, 0), (12, 36), (12, 45)] δ r37 ∧ q_V r37 = q_V δ ∧ kr ad [100, 119, 122, 123] δ r37) from ⟨i39, ⟨kp_w (by decide) u43, v44, kr_w (by decide) v45⟩⟩)
set_option maxHeartbeats 4000000 in
theorem k_X12_rowCall {ad : List Nat} {h : hp} (L : Lay TLx ad h) {δ0 : dp} {N : Nat} (hN : 10000000 ≤ N) {a0 : Nat} {x1 : Int32} {x2 : Int32} (k_a0 : q_K h.1 a0 = 12) {δ : dp} (I : RI ad h.1 δ0 δ) : ok (D_X12_rowCall N h.1 a0 x1 x2 δ) (fun r => RI ad h.1 δ0 r.2 ∧ (kp [(12, 0), (12, 36), (12, 45)] δ r.2 ∧ q_V r.2 = q_V δ ∧ kr ad [100, 119, 122, 123] δ r.2)) := by
  unfold D_X12_rowCall
  refine ok_bdv (fun d1 e2 => ?_)
  have i3 : RI ad h.1 δ0 d1 := by rw [e2]; exact cs_12_0 L I
  have u4 := kp_I kp_r e2
  have v5 : q_V d1 = q_V δ := ((show q_V d1 = q_V δ by rw [e2]; rfl)).trans rfl
  have v6 := kr_N (kr_r (ad := ad)) (show q_R d1 = q_R δ by rw [e2]; rfl)
  refine ok_bind (k_X12_isRow L hN (a0 := a0) (x1 := x1) k_a0 i3) (fun r7 hr8 => ?_)
  obtain ⟨i9, p10, p11, p12⟩ := hr8
  try rw [i9]
  have f13 := bo_l p10
  have f14 := ti_b r7.1
  have f15 := ti_b x1
  have f16 : (q_I d1 12 10 a0).toInt = (q_I δ 12 10 a0).toInt := congrArg Int32.toInt (by rw [e2]; exact rI_o (by decide))
  have f17 := cb_12_10 I k_a0
  refine ok_bind (k_X12_may L hN (a0 := a0) (x1 := r7.1) (x2 := (1 : Int32)) (x3 := (2 : Int32)) k_a0 (show (1 : Int) ≠ 0 by first | with_reducible assumption | omega) (show 0 ≤ (2 : Int) by first | with_reducible assumption | omega) (show (2 : Int) ≤ 2 by first | with_reducible assumption | omega) i3) (fun r18 hr19 => ?_)
  obtain ⟨i20, ⟨u24, u25, u26⟩, p21, p22, p23⟩ := hr19
  have u27 := kp_t u4 u24
  have v28 : q_V r18.2 = q_V δ := (u25).trans v5
  have v29 := kr_t v6 u26
  have f30 := bo_l p21
  have f31 := ti_b r18.1
  have f32 := ti_b (q_I d1 12 0 a0)
  have f33 : (q_I d1 12 0 a0).toInt = (0 : Int) := congrArg Int32.toInt (show q_I d1 12 0 a0 = (0 : Int32) by rw [e2]; exact rI_s)
  refine ok_ite (fun h34 => ?_) (fun h34 => ?_)
  · have c35 : r18.1.toInt = (0 : Int) := o_eq h34
    exact ok_some (show RI ad h.1 δ0 r18.2 ∧ (kp [(12, 0), (12, 36), (12, 45)] δ r18.2 ∧ q_V r18.2 = q_V δ ∧ kr ad [100, 119, 122, 123] δ r18.2) from ⟨i20, ⟨kp_w (by decide) u27, v28, kr_w (by decide) v29⟩⟩)
  · have c36 : r18.1.toInt ≠ (0 : Int) := o_ne h34
    refine ok_bind (k_X12_rows L hN (a0 := a0) (x1 := x1) k_a0 (show 1 ≤ (x1).toInt by first | with_reducible assumption | omega) (show (x1).toInt ≤ 6 by first | with_reducible assumption | omega) i20) (fun r37 hr38 => ?_)
    obtain ⟨i39, ⟨u40, u41, u42⟩⟩ := hr38
    have u43 := kp_t u27 u40
    have v44 : q_V r37 = q_V δ := (u41).trans v28
    have v45 := kr_t v29 u42
    refine ok_bind (k_X12_within L hN (x0 := x2) (x1 := (0 : Int32)) (x2 := (x1 - (1 : Int32)))  i39) (fun r46 hr47 => ?_)
    obtain ⟨i48, p49, p50, p51⟩ := hr47
    try rw [i48]
    have f52 := bo_l p49
    have f53 := ti_b r46.1
    have f54 := ti_b x2
    first | (have q56 := te_subc (c := 1) (n := 1) rfl x1 (by omega) (by omega); obtain ⟨f57, f58, f59⟩ := q56) | (obtain ⟨q56, f57, f58, f59⟩ := ti_subc (c := 1) (n := 1) rfl x1)
    replace p50 : ((r46.1).toInt = 1 → (0 : Int) ≤ (x2).toInt ∧ (x2).toInt ≤ ((x1 - (1 : Int32))).toInt) := p50
    replace p51 : ((r46.1).toInt = 0 → (x2).toInt < (0 : Int) ∨ ((x1 - (1 : Int32))).toInt < (x2).toInt) := p51
    refine ok_ite (fun h60 => ?_) (fun h60 => ?_)
    · have c61 : r46.1.toInt = (0 : Int) := o_eq h60
      unfold J_X12_rowCall_67
      exact ok_some (show RI ad h.1 δ0 r37 ∧ (kp [(12, 0), (12, 36), (12, 45)] δ r37 ∧ q_V r37 = q_V δ ∧ kr ad [100, 119, 122, 123] δ r37) from ⟨i39, ⟨kp_w (by decide) u43, v44, kr_w (by decide) v45⟩⟩)
    · have c62 : r46.1.toInt ≠ (0 : Int) := o_ne h60
      obtain ⟨b63, o64, k65, n66, w67⟩ := gO_12_44 L k_a0
      obtain rfl := gS_12_44 L k_a0 o64
      refine ok_at o64 ?_
      have t68 := ti_tn x2
      refine ok_gd (fun hc69 => ?_) ?_
      · rcases hc69 with hc69 | hc69
        · have c70 : x2.toInt < (0 : Int) := o_lt hc69
          omega
        · omega
      refine ok_bind (k_X12_all L hN (a0 := a0) k_a0 i39) (fun r71 hr72 => ?_)
      obtain ⟨i73, p74, p75, p76, p77⟩ := hr72
      try rw [i73]
      have f78 := ti_b r71.1
      have f79 : (q_I r37 12 10 a0).toInt = (q_I d1 12 10 a0).toInt := ((show (q_I r37 12 10 a0).toInt = (q_I r18.2 12 10 a0).toInt from congrArg Int32.toInt (u40 12 10 a0 (by decide))).trans (show (q_I r18.2 12 10 a0).toInt = (q_I d1 12 10 a0).toInt from congrArg Int32.toInt (u24 12 10 a0 (by decide))))
      refine ok_gd (fun hc80 => ?_) ?_
      · have c81 : r71.1.toInt = (0 : Int) := o_eq hc80
        omega
      refine ok_at o64 ?_
      refine ok_gd (fun hc82 => ?_) ?_
      · rcases hc82 with hc82 | hc82
        · have c83 : x2.toInt < (0 : Int) := o_lt hc82
          omega
        · omega
      refine ok_bind (k_X12_all L hN (a0 := a0) k_a0 i39) (fun r84 hr85 => ?_)
      obtain ⟨i86, p87, p88, p89, p90⟩ := hr85
      try rw [i86]
      have f91 := ti_b r84.1
      refine ok_gd (fun hc92 => ?_) ?_
      · have c93 : r84.1.toInt = (0 : Int) := o_eq hc92
        omega
      unfold J_X12_rowCall_67
      exact ok_some (show RI ad h.1 δ0 r37 ∧ (kp [(12, 0), (12, 36), (12, 45)] δ r37 ∧ q_V r37 = q_V δ ∧ kr ad [100, 119, 122, 123] δ r37) from ⟨i39, ⟨kp_w (by decide) u43, v44, kr_w (by decide) v45⟩⟩)
end
section
/-! a sum worked out, from its codes -/
theorem k_X12_worked {ad : List Nat} {h : hp} (L : Lay TLx ad h) {δ0 : dp} {N : Nat} (hN : 10000000 ≤ N) {a0 : Nat} {x1 : Int32} {x2 : Int32} {x3 : Int32} (k_a0 : q_K h.1 a0 = 12) {δ : dp} (z0 : 0 ≤ (x1).toInt) (z1 : (x1).toInt ≤ 3) (z2 : 0 ≤ (x2).toInt) (z3 : (x2).toInt ≤ (x3).toInt) (z4 : (x3).toInt ≤ 2000) (z5 : (x3).toInt ≤ (x2).toInt + 500) (z6 : 0 ≤ (q_I δ 12 58 a0).toInt) (z7 : (q_I δ 12 58 a0).toInt ≤ 4) (z8 : rn (q_R δ (Ad ad 116)) ((x3).toInt.toNat - (x2).toInt.toNat) (x2).toInt.toNat 0 = some 1) (I : RI ad h.1 δ0 δ) : ok (D_X12_worked N h.1 a0 x1 x2 x3 δ) (fun r => RI ad h.1 δ0 r.2 ∧ (kp [(12, 49)] δ r.2 ∧ q_V r.2 = q_V δ ∧ kr ad [118] δ r.2)) := by
  unfold D_X12_worked
  refine ok_mono (fl_worked L hN (H := x1.toInt.toNat) (f := x2.toInt.toNat) (e := x3.toInt.toNat) k_a0 (by omega) (by omega) (by omega) (by omega) (by omega) N x2.toInt.toNat 0 0 x2 δ rfl (by omega) (Nat.le_refl _) (by omega) (by omega) I z6 z7 rfl ⟨1, z8⟩ (by omega)) (fun r hr => ?_)
  exact ⟨hr.1, hr.2.1, congrArg Prod.fst (hr.1.2.2.2.2.trans I.2.2.2.2.symm), hr.2.2⟩
theorem an_le {a b : Int32} (h : 0 ≤ b.toInt) : 0 ≤ (a &&& b).toInt ∧ (a &&& b).toInt ≤ b.toInt := by
  have e := un_and a b
  have l : un (a &&& b) ≤ un b := by rw [e]; exact Nat.and_le_right
  have hb := un_i h
  have tb := ti_b b
  have t := un_o (a := a &&& b) (by omega)
  omega
end
section
/-! 79.zf.steps (by gen_safe.py) -/
set_option maxHeartbeats 4000000 in
theorem kj_X12_steps_226 {ad : List Nat} {h : hp} (L : Lay TLx ad h) {δ0 : dp} {N : Nat} (hN : 10000000 ≤ N) {a0 : Nat} {x1 : Int32} {x2 : Int32} {x3v : Int32} {x5v : Int32} (k_a0 : q_K h.1 a0 = 12) {δ : dp} (z0 : 0 ≤ (x1).toInt) (z1 : (x1).toInt ≤ 3) (z2 : 0 ≤ (x2).toInt) (z3 : (x2).toInt < 240) (z4 : 0 ≤ (x3v).toInt) (z5 : (x3v).toInt ≤ 65535) (z6 : (x5v).toInt = 0 ∨ (q_R δ (Ad ad 113) (x2).toNatClampNeg).toInt = 0 ∨ 1 ≤ (q_R δ (Ad ad 103) (x1).toNatClampNeg).toInt) (I : RI ad h.1 δ0 δ) : ok (J_X12_steps_226 N h.1 a0 x1 x2 x3v x5v δ) (fun r => RI ad h.1 δ0 r.2 ∧ (kp [(12, 36), (12, 49), (12, 50), (12, 51), (12, 52), (12, 53), (12, 54), (12, 55), (12, 56)] δ r.2 ∧ q_V r.2 = q_V δ ∧ kr ad [102, 103, 118, 119] δ r.2 ∧ sgk ad x1.toNatClampNeg δ r.2) ∧ bo (r.1)) := by
  unfold J_X12_steps_226
  have f1 := ti_b x1
  have f2 := ti_b x2
  have f3 := ti_b x3v
  have f4 := ti_b x5v
  have t5 := ti_tn x2
  have f6 := ti_b (q_R δ (Ad ad 113) (x2).toNatClampNeg)
  have t7 := ti_tn x1
  have f8 := rb_103 L I (x1).toNatClampNeg
  obtain ⟨b9, o10, k11, n12, w13⟩ := gO_12_29 L k_a0
  obtain rfl := gS_12_29 L k_a0 o10
  refine ok_at o10 ?_
  have t14 := ti_tn x2
  refine ok_gd (fun hc15 => ?_) ?_
  · rcases hc15 with hc15 | hc15
    · have c16 : x2.toInt < (0 : Int) := o_lt hc15
      omega
    · omega
  have f17 := ti_b (q_R δ (Ad ad 113) x2.toNatClampNeg)
  refine ok_ite (fun h18 => ?_) (fun h18 => ?_)
  · have c19 : (q_R δ (Ad ad 113) x2.toNatClampNeg).toInt = (1 : Int) := o_eq h18
    refine ok_ite (fun h20 => ?_) (fun h20 => ?_)
    · have c21 : x5v.toInt = (0 : Int) := o_eq h20
      unfold J_X12_steps_247
      refine ok_gp (by decide) ?_
      exact ok_some (show RI ad h.1 δ0 δ ∧ (kp [(12, 36), (12, 49), (12, 50), (12, 51), (12, 52), (12, 53), (12, 54), (12, 55), (12, 56)] δ δ ∧ q_V δ = q_V δ ∧ kr ad [102, 103, 118, 119] δ δ ∧ sgk ad x1.toNatClampNeg δ δ) ∧ bo ((1 : Int32)) from ⟨I, ⟨kp_w (by decide) kp_r, rfl, kr_w (by decide) (kr_r (ad := ad)), sgk_r⟩, bo_1⟩)
    · have c22 : x5v.toInt ≠ (0 : Int) := o_ne h20
      refine ok_bind (g_X12_leaves L hN (a0 := a0) (x1 := x1) (x2 := x3v) k_a0 (show 0 ≤ (x1).toInt by first | with_reducible assumption | omega) (show (x1).toInt ≤ 3 by first | with_reducible assumption | omega) (show -999 ≤ (q_R δ (Ad ad 103) (x1).toNatClampNeg).toInt by first | with_reducible assumption | omega) I) (fun r23 hr24 => ?_)
      obtain ⟨i25, ⟨u27, u28, u29, u30⟩, p26⟩ := hr24
      have u31 := kp_t kp_r u27
      have v32 : q_V r23 = q_V δ := (u28).trans rfl
      have v33 := kr_t (kr_r (ad := ad)) u29
      have v34 : sgk ad x1.toNatClampNeg δ r23 := sgk_t sgk_r u30
      have f35 := rb_103 L i25 (x1).toNatClampNeg
      unfold J_X12_steps_247
      refine ok_gp (by decide) ?_
      exact ok_some (show RI ad h.1 δ0 r23 ∧ (kp [(12, 36), (12, 49), (12, 50), (12, 51), (12, 52), (12, 53), (12, 54), (12, 55), (12, 56)] δ r23 ∧ q_V r23 = q_V δ ∧ kr ad [102, 103, 118, 119] δ r23 ∧ sgk ad x1.toNatClampNeg δ r23) ∧ bo ((1 : Int32)) from ⟨i25, ⟨kp_w (by decide) u31, v32, kr_w (by decide) v33, v34⟩, bo_1⟩)
  · have c36 : (q_R δ (Ad ad 113) x2.toNatClampNeg).toInt ≠ (1 : Int) := o_ne h18
    unfold J_X12_steps_247
    refine ok_gp (by decide) ?_
    exact ok_some (show RI ad h.1 δ0 δ ∧ (kp [(12, 36), (12, 49), (12, 50), (12, 51), (12, 52), (12, 53), (12, 54), (12, 55), (12, 56)] δ δ ∧ q_V δ = q_V δ ∧ kr ad [102, 103, 118, 119] δ δ ∧ sgk ad x1.toNatClampNeg δ δ) ∧ bo ((1 : Int32)) from ⟨I, ⟨kp_w (by decide) kp_r, rfl, kr_w (by decide) (kr_r (ad := ad)), sgk_r⟩, bo_1⟩)
set_option maxHeartbeats 4000000 in
theorem kj_X12_steps_203 {ad : List Nat} {h : hp} (L : Lay TLx ad h) {δ0 : dp} {N : Nat} (hN : 10000000 ≤ N) {a0 : Nat} {x1 : Int32} {x2 : Int32} {xs0 : Int32} {as1 : Nat} {x3v : Int32} {x5v : Int32} (k_a0 : q_K h.1 a0 = 12) (k_as1 : q_K h.1 as1 = 12) {δ : dp} (z0 : 0 ≤ (x1).toInt) (z1 : (x1).toInt ≤ 3) (z2 : 0 ≤ (x2).toInt) (z3 : (x2).toInt < 240) (z4 : 0 ≤ (x3v).toInt) (z5 : (x3v).toInt ≤ 65535) (z6 : (q_R δ (Ad ad 113) (x2).toNatClampNeg).toInt = 0 → (q_R δ (Ad ad 103) (x1).toNatClampNeg).toInt < 2000) (z7 : (x5v).toInt = 0 ∨ 1 ≤ (q_R δ (Ad ad 103) (x1).toNatClampNeg).toInt) (I : RI ad h.1 δ0 δ) : ok (J_X12_steps_203 N h.1 a0 x1 x2 xs0 as1 x3v x5v δ) (fun r => RI ad h.1 δ0 r.2 ∧ (kp [(12, 36), (12, 49), (12, 50), (12, 51), (12, 52), (12, 53), (12, 54), (12, 55), (12, 56)] δ r.2 ∧ q_V r.2 = q_V δ ∧ kr ad [102, 103, 118, 119] δ r.2 ∧ sgk ad x1.toNatClampNeg δ r.2) ∧ bo (r.1)) := by
  unfold J_X12_steps_203
  have f1 := ti_b x1
  have f2 := ti_b x2
  have f3 := ti_b x3v
  have t4 := ti_tn x2
  have f5 := ti_b (q_R δ (Ad ad 113) (x2).toNatClampNeg)
  have t6 := ti_tn x1
  have f7 := rb_103 L I (x1).toNatClampNeg
  have f8 := ti_b x5v
  have f12 := ti_b xs0
  refine ok_bdv (fun d9 e10 => ?_)
  have i11 : RI ad h.1 δ0 d9 := by rw [e10]; exact cs_12_50 L I
  have u13 := kp_I kp_r e10
  have v14 : q_V d9 = q_V δ := ((show q_V d9 = q_V δ by rw [e10]; rfl)).trans rfl
  have v15 := kr_N (kr_r (ad := ad)) (show q_R d9 = q_R δ by rw [e10]; rfl)
  have v16 : sgk ad x1.toNatClampNeg δ d9 := sgk_t sgk_r ((show sgk ad x1.toNatClampNeg δ d9 by rw [e10]; exact sgk_r))
  obtain ⟨b17, o18, k19, n20, w21⟩ := gO_12_29 L k_a0
  obtain rfl := gS_12_29 L k_a0 o18
  refine ok_at o18 ?_
  have t22 := ti_tn x2
  refine ok_gd (fun hc23 => ?_) ?_
  · rcases hc23 with hc23 | hc23
    · have c24 : x2.toInt < (0 : Int) := o_lt hc23
      omega
    · omega
  have f25 : (q_R d9 (Ad ad 113) x2.toNatClampNeg).toInt = (q_R δ (Ad ad 113) x2.toNatClampNeg).toInt := congrArg Int32.toInt (show q_R d9 (Ad ad 113) x2.toNatClampNeg = _ by rw [e10]; rfl)
  have f26 := ti_b (q_R δ (Ad ad 113) x2.toNatClampNeg)
  have f27 := ti_b (q_R d9 (Ad ad 113) x2.toNatClampNeg)
  refine ok_ite (fun h28 => ?_) (fun h28 => ?_)
  · have c29 : (q_R d9 (Ad ad 113) x2.toNatClampNeg).toInt = (0 : Int) := o_eq h28
    refine ok_ite (fun h30 => ?_) (fun h30 => ?_)
    · have c31 : x5v.toInt = (0 : Int) := o_eq h30
      have f34 : (q_R d9 (Ad ad 103) (x1).toNatClampNeg).toInt = (q_R δ (Ad ad 103) (x1).toNatClampNeg).toInt := congrArg Int32.toInt (show q_R d9 (Ad ad 103) (x1).toNatClampNeg = _ by rw [e10]; rfl)
      have f35 := rb_103 L i11 (x1).toNatClampNeg
      refine ok_bind (g_X12_comes L hN (a0 := a0) (x1 := x1) (x2 := x3v) k_a0 (show 0 ≤ (x1).toInt by first | with_reducible assumption | omega) (show (x1).toInt ≤ 3 by first | with_reducible assumption | omega) (show (q_R d9 (Ad ad 103) (x1).toNatClampNeg).toInt < 2000 by first | with_reducible assumption | omega) i11) (fun r32 hr33 => ?_)
      obtain ⟨i36, ⟨u38, u39, u40, u41⟩, p37⟩ := hr33
      have u42 := kp_t u13 u38
      have v43 : q_V r32 = q_V δ := (u39).trans v14
      have v44 := kr_t v15 u40
      have v45 : sgk ad x1.toNatClampNeg δ r32 := sgk_t v16 u41
      have f46 := rb_103 L i36 (x1).toNatClampNeg
      have f47 : (q_R r32 (Ad ad 113) (x2).toNatClampNeg).toInt = (q_R d9 (Ad ad 113) (x2).toNatClampNeg).toInt := congrArg Int32.toInt (congrFun (u40 113 (by decide) (by decide) (by decide)) _)
      have f48 : (q_R d9 (Ad ad 113) (x2).toNatClampNeg).toInt = (q_R δ (Ad ad 113) (x2).toNatClampNeg).toInt := congrArg Int32.toInt (show q_R d9 (Ad ad 113) (x2).toNatClampNeg = _ by rw [e10]; rfl)
      have f49 := ti_b (q_R d9 (Ad ad 113) (x2).toNatClampNeg)
      have f50 := ti_b (q_R r32 (Ad ad 113) (x2).toNatClampNeg)
      refine ok_mono (kj_X12_steps_226 L hN (a0 := a0) (x1 := x1) (x2 := x2) (x3v := x3v) (x5v := x5v) k_a0 (show 0 ≤ (x1).toInt by first | with_reducible assumption | omega) (show (x1).toInt ≤ 3 by first | with_reducible assumption | omega) (show 0 ≤ (x2).toInt by first | with_reducible assumption | omega) (show (x2).toInt < 240 by first | with_reducible assumption | omega) (show 0 ≤ (x3v).toInt by first | with_reducible assumption | omega) (show (x3v).toInt ≤ 65535 by first | with_reducible assumption | omega) (show (x5v).toInt = 0 ∨ (q_R r32 (Ad ad 113) (x2).toNatClampNeg).toInt = 0 ∨ 1 ≤ (q_R r32 (Ad ad 103) (x1).toNatClampNeg).toInt by first | with_reducible assumption | omega) i36) (fun r51 hr52 => ?_)
      obtain ⟨i53, ⟨u55, u56, u57, u58⟩, p54⟩ := hr52
      have u59 := kp_t u42 u55
      have v60 : q_V r51.2 = q_V δ := (u56).trans v43
      have v61 := kr_t v44 u57
      have v62 : sgk ad x1.toNatClampNeg δ r51.2 := sgk_t v45 u58
      have f63 := bo_l p54
      have f64 := ti_b r51.1
      exact ⟨by first | with_reducible assumption | assumption, ⟨kp_w (by decide) u59, v60, kr_w (by decide) v61, v62⟩, by first | with_reducible assumption | omega⟩
    · have c65 : x5v.toInt ≠ (0 : Int) := o_ne h30
      have f66 : (q_R d9 (Ad ad 113) (x2).toNatClampNeg).toInt = (q_R δ (Ad ad 113) (x2).toNatClampNeg).toInt := congrArg Int32.toInt (show q_R d9 (Ad ad 113) (x2).toNatClampNeg = _ by rw [e10]; rfl)
      have f67 := ti_b (q_R d9 (Ad ad 113) (x2).toNatClampNeg)
      have f68 : (q_R d9 (Ad ad 103) (x1).toNatClampNeg).toInt = (q_R δ (Ad ad 103) (x1).toNatClampNeg).toInt := congrArg Int32.toInt (show q_R d9 (Ad ad 103) (x1).toNatClampNeg = _ by rw [e10]; rfl)
      have f69 := rb_103 L i11 (x1).toNatClampNeg
      refine ok_mono (kj_X12_steps_226 L hN (a0 := a0) (x1 := x1) (x2 := x2) (x3v := x3v) (x5v := x5v) k_a0 (show 0 ≤ (x1).toInt by first | with_reducible assumption | omega) (show (x1).toInt ≤ 3 by first | with_reducible assumption | omega) (show 0 ≤ (x2).toInt by first | with_reducible assumption | omega) (show (x2).toInt < 240 by first | with_reducible assumption | omega) (show 0 ≤ (x3v).toInt by first | with_reducible assumption | omega) (show (x3v).toInt ≤ 65535 by first | with_reducible assumption | omega) (show (x5v).toInt = 0 ∨ (q_R d9 (Ad ad 113) (x2).toNatClampNeg).toInt = 0 ∨ 1 ≤ (q_R d9 (Ad ad 103) (x1).toNatClampNeg).toInt by first | with_reducible assumption | omega) i11) (fun r70 hr71 => ?_)
      obtain ⟨i72, ⟨u74, u75, u76, u77⟩, p73⟩ := hr71
      have u78 := kp_t u13 u74
      have v79 : q_V r70.2 = q_V δ := (u75).trans v14
      have v80 := kr_t v15 u76
      have v81 : sgk ad x1.toNatClampNeg δ r70.2 := sgk_t v16 u77
      have f82 := bo_l p73
      have f83 := ti_b r70.1
      exact ⟨by first | with_reducible assumption | assumption, ⟨kp_w (by decide) u78, v79, kr_w (by decide) v80, v81⟩, by first | with_reducible assumption | omega⟩
  · have c84 : (q_R d9 (Ad ad 113) x2.toNatClampNeg).toInt ≠ (0 : Int) := o_ne h28
    have f85 : (q_R d9 (Ad ad 113) (x2).toNatClampNeg).toInt = (q_R δ (Ad ad 113) (x2).toNatClampNeg).toInt := congrArg Int32.toInt (show q_R d9 (Ad ad 113) (x2).toNatClampNeg = _ by rw [e10]; rfl)
    have f86 := ti_b (q_R d9 (Ad ad 113) (x2).toNatClampNeg)
    have f87 : (q_R d9 (Ad ad 103) (x1).toNatClampNeg).toInt = (q_R δ (Ad ad 103) (x1).toNatClampNeg).toInt := congrArg Int32.toInt (show q_R d9 (Ad ad 103) (x1).toNatClampNeg = _ by rw [e10]; rfl)
    have f88 := rb_103 L i11 (x1).toNatClampNeg
    refine ok_mono (kj_X12_steps_226 L hN (a0 := a0) (x1 := x1) (x2 := x2) (x3v := x3v) (x5v := x5v) k_a0 (show 0 ≤ (x1).toInt by first | with_reducible assumption | omega) (show (x1).toInt ≤ 3 by first | with_reducible assumption | omega) (show 0 ≤ (x2).toInt by first | with_reducible assumption | omega) (show (x2).toInt < 240 by first | with_reducible assumption | omega) (show 0 ≤ (x3v).toInt by first | with_reducible assumption | omega) (show (x3v).toInt ≤ 65535 by first | with_reducible assumption | omega) (show (x5v).toInt = 0 ∨ (q_R d9 (Ad ad 113) (x2).toNatClampNeg).toInt = 0 ∨ 1 ≤ (q_R d9 (Ad ad 103) (x1).toNatClampNeg).toInt by first | with_reducible assumption | omega) i11) (fun r89 hr90 => ?_)
    obtain ⟨i91, ⟨u93, u94, u95, u96⟩, p92⟩ := hr90
    have u97 := kp_t u13 u93
    have v98 : q_V r89.2 = q_V δ := (u94).trans v14
    have v99 := kr_t v15 u95
    have v100 : sgk ad x1.toNatClampNeg δ r89.2 := sgk_t v16 u96
    have f101 := bo_l p92
    have f102 := ti_b r89.1
    exact ⟨by first | with_reducible assumption | assumption, ⟨kp_w (by decide) u97, v98, kr_w (by decide) v99, v100⟩, by first | with_reducible assumption | omega⟩
set_option maxHeartbeats 4000000 in
theorem kj_X12_steps_108 {ad : List Nat} {h : hp} (L : Lay TLx ad h) {δ0 : dp} {N : Nat} (hN : 10000000 ≤ N) {a0 : Nat} {x1 : Int32} {x2 : Int32} {x3v : Int32} (k_a0 : q_K h.1 a0 = 12) {δ : dp} (z0 : 0 ≤ (x1).toInt) (z1 : (x1).toInt ≤ 3) (z2 : 0 ≤ (x2).toInt) (z3 : (x2).toInt < 240) (z4 : 0 ≤ (x3v).toInt) (z5 : (x3v).toInt ≤ 65535) (z6 : (q_R δ (Ad ad 113) (x2).toNatClampNeg).toInt = 0 → (q_R δ (Ad ad 103) (x1).toNatClampNeg).toInt < 2000) (I : RI ad h.1 δ0 δ) : ok (J_X12_steps_108 N h.1 a0 x1 x2 x3v δ) (fun r => RI ad h.1 δ0 r.2 ∧ (kp [(12, 36), (12, 49), (12, 50), (12, 51), (12, 52), (12, 53), (12, 54), (12, 55), (12, 56)] δ r.2 ∧ q_V r.2 = q_V δ ∧ kr ad [102, 103, 118, 119] δ r.2 ∧ sgk ad x1.toNatClampNeg δ r.2) ∧ bo (r.1)) := by
  unfold J_X12_steps_108
  have f1 := ti_b x1
  have f2 := ti_b x2
  have f3 := ti_b x3v
  have t4 := ti_tn x2
  have f5 := ti_b (q_R δ (Ad ad 113) (x2).toNatClampNeg)
  have t6 := ti_tn x1
  have f7 := rb_103 L I (x1).toNatClampNeg
  obtain ⟨b8, o9, k10, n11, w12⟩ := gO_12_29 L k_a0
  obtain rfl := gS_12_29 L k_a0 o9
  refine ok_at o9 ?_
  have t13 := ti_tn x2
  refine ok_gd (fun hc14 => ?_) ?_
  · rcases hc14 with hc14 | hc14
    · have c15 : x2.toInt < (0 : Int) := o_lt hc14
      omega
    · omega
  refine ok_bind (k_X12_bits L hN (a0 := a0) (x1 := x1) (x2 := (q_R δ (Ad ad 113) x2.toNatClampNeg)) (x3 := x3v) k_a0 (show 0 ≤ (x1).toInt by first | with_reducible assumption | omega) (show (x1).toInt ≤ 3 by first | with_reducible assumption | omega) (show -1 ≤ (x3v).toInt by first | with_reducible assumption | omega) (show (x3v).toInt ≤ 65536 by first | with_reducible assumption | omega) I) (fun r16 hr17 => ?_)
  have i18 := hr17
  try rw [i18]
  have f19 := ti_b r16.1
  have f23 := ti_b (q_I δ 12 55 a0)
  first | (have q25 := te_add (q_I δ 12 55 a0) r16.1 (by omega) (by omega); obtain ⟨f26, f27, f28⟩ := q25) | (obtain ⟨q25, f26, f27, f28⟩ := ti_add (q_I δ 12 55 a0) r16.1)
  refine ok_bdv (fun d20 e21 => ?_)
  have i22 : RI ad h.1 δ0 d20 := by rw [e21]; exact cs_12_55 L I
  have u29 := kp_I kp_r e21
  have v30 : q_V d20 = q_V δ := ((show q_V d20 = q_V δ by rw [e21]; rfl)).trans rfl
  have v31 := kr_N (kr_r (ad := ad)) (show q_R d20 = q_R δ by rw [e21]; rfl)
  have v32 : sgk ad x1.toNatClampNeg δ d20 := sgk_t sgk_r ((show sgk ad x1.toNatClampNeg δ d20 by rw [e21]; exact sgk_r))
  refine ok_at o9 ?_
  refine ok_gd (fun hc33 => ?_) ?_
  · rcases hc33 with hc33 | hc33
    · have c34 : x2.toInt < (0 : Int) := o_lt hc33
      omega
    · omega
  refine ok_bind (k_X12_sorted L hN (a0 := a0) (x1 := x1) (x2 := (q_R d20 (Ad ad 113) x2.toNatClampNeg)) (x3 := x3v) k_a0 (show 0 ≤ (x1).toInt by first | with_reducible assumption | omega) (show (x1).toInt ≤ 3 by first | with_reducible assumption | omega) i22) (fun r35 hr36 => ?_)
  have i37 := hr36
  try rw [i37]
  have f38 := ti_b r35.1
  have f42 : (q_I d20 12 56 a0).toInt = (q_I δ 12 56 a0).toInt := congrArg Int32.toInt (by rw [e21]; exact rI_o (by decide))
  have f43 := ti_b (q_I δ 12 56 a0)
  first | (have q45 := te_add (q_I d20 12 56 a0) r35.1 (by omega) (by omega); obtain ⟨f46, f47, f48⟩ := q45) | (obtain ⟨q45, f46, f47, f48⟩ := ti_add (q_I d20 12 56 a0) r35.1)
  refine ok_bdv (fun d39 e40 => ?_)
  have i41 : RI ad h.1 δ0 d39 := by rw [e40]; exact cs_12_56 L i22
  have u49 := kp_I u29 e40
  have v50 : q_V d39 = q_V δ := ((show q_V d39 = q_V d20 by rw [e40]; rfl)).trans v30
  have v51 := kr_N v31 (show q_R d39 = q_R d20 by rw [e40]; rfl)
  have v52 : sgk ad x1.toNatClampNeg δ d39 := sgk_t v32 ((show sgk ad x1.toNatClampNeg d20 d39 by rw [e40]; exact sgk_r))
  have f56 : (q_I d39 12 51 a0).toInt = (q_I δ 12 51 a0).toInt := ((show (q_I d39 12 51 a0).toInt = (q_I d20 12 51 a0).toInt from congrArg Int32.toInt (by rw [e40]; exact rI_o (by decide))).trans (show (q_I d20 12 51 a0).toInt = (q_I δ 12 51 a0).toInt from congrArg Int32.toInt (by rw [e21]; exact rI_o (by decide))))
  have f57 := ti_b (q_I δ 12 51 a0)
  first | (have q59 := te_addc (c := 1) (n := 1) rfl (q_I d39 12 51 a0) (by omega) (by omega); obtain ⟨f60, f61, f62⟩ := q59) | (obtain ⟨q59, f60, f61, f62⟩ := ti_addc (c := 1) (n := 1) rfl (q_I d39 12 51 a0))
  refine ok_bdv (fun d53 e54 => ?_)
  have i55 : RI ad h.1 δ0 d53 := by rw [e54]; exact cs_12_51 L i41
  have u63 := kp_I u49 e54
  have v64 : q_V d53 = q_V δ := ((show q_V d53 = q_V d39 by rw [e54]; rfl)).trans v50
  have v65 := kr_N v51 (show q_R d53 = q_R d39 by rw [e54]; rfl)
  have v66 : sgk ad x1.toNatClampNeg δ d53 := sgk_t v52 ((show sgk ad x1.toNatClampNeg d39 d53 by rw [e54]; exact sgk_r))
  refine ok_bind (k_X12_isThere L hN (a0 := a0) (x1 := x1) (x2 := x3v) k_a0 (show 0 ≤ (x1).toInt by first | with_reducible assumption | omega) (show (x1).toInt ≤ 3 by first | with_reducible assumption | omega) i55) (fun r67 hr68 => ?_)
  obtain ⟨i69, p70, p71⟩ := hr68
  try rw [i69]
  have f72 := bo_l p70
  have f73 := ti_b r67.1
  have f74 : (q_R d53 (Ad ad 103) (x1).toNatClampNeg).toInt = (q_R d39 (Ad ad 103) (x1).toNatClampNeg).toInt := congrArg Int32.toInt (show q_R d53 (Ad ad 103) (x1).toNatClampNeg = _ by rw [e54]; rfl)
  have f75 : (q_R d39 (Ad ad 103) (x1).toNatClampNeg).toInt = (q_R d20 (Ad ad 103) (x1).toNatClampNeg).toInt := congrArg Int32.toInt (show q_R d39 (Ad ad 103) (x1).toNatClampNeg = _ by rw [e40]; rfl)
  have f76 : (q_R d20 (Ad ad 103) (x1).toNatClampNeg).toInt = (q_R δ (Ad ad 103) (x1).toNatClampNeg).toInt := congrArg Int32.toInt (show q_R d20 (Ad ad 103) (x1).toNatClampNeg = _ by rw [e21]; rfl)
  have f77 := rb_103 L i22 (x1).toNatClampNeg
  have f78 := rb_103 L i41 (x1).toNatClampNeg
  have f79 := rb_103 L i55 (x1).toNatClampNeg
  refine ok_at o9 ?_
  refine ok_gd (fun hc80 => ?_) ?_
  · rcases hc80 with hc80 | hc80
    · have c81 : x2.toInt < (0 : Int) := o_lt hc80
      omega
    · omega
  have f82 : (q_R d53 (Ad ad 113) x2.toNatClampNeg).toInt = (q_R d39 (Ad ad 113) x2.toNatClampNeg).toInt := congrArg Int32.toInt (show q_R d53 (Ad ad 113) x2.toNatClampNeg = _ by rw [e54]; rfl)
  have f83 : (q_R d39 (Ad ad 113) x2.toNatClampNeg).toInt = (q_R d20 (Ad ad 113) x2.toNatClampNeg).toInt := congrArg Int32.toInt (show q_R d39 (Ad ad 113) x2.toNatClampNeg = _ by rw [e40]; rfl)
  have f84 : (q_R d20 (Ad ad 113) x2.toNatClampNeg).toInt = (q_R δ (Ad ad 113) x2.toNatClampNeg).toInt := congrArg Int32.toInt (show q_R d20 (Ad ad 113) x2.toNatClampNeg = _ by rw [e21]; rfl)
  have f85 := ti_b (q_R δ (Ad ad 113) x2.toNatClampNeg)
  have f86 := ti_b (q_R d20 (Ad ad 113) x2.toNatClampNeg)
  have f87 := ti_b (q_R d39 (Ad ad 113) x2.toNatClampNeg)
  have f88 := ti_b (q_R d53 (Ad ad 113) x2.toNatClampNeg)
  refine ok_ite (fun h89 => ?_) (fun h89 => ?_)
  · have c90 : (q_R d53 (Ad ad 113) x2.toNatClampNeg).toInt = (0 : Int) := o_eq h89
    refine ok_ite (fun h91 => ?_) (fun h91 => ?_)
    · have c92 : r67.1.toInt = (0 : Int) := o_eq h91
      have f93 : (q_R d53 (Ad ad 113) (x2).toNatClampNeg).toInt = (q_R d39 (Ad ad 113) (x2).toNatClampNeg).toInt := congrArg Int32.toInt (show q_R d53 (Ad ad 113) (x2).toNatClampNeg = _ by rw [e54]; rfl)
      have f94 : (q_R d39 (Ad ad 113) (x2).toNatClampNeg).toInt = (q_R d20 (Ad ad 113) (x2).toNatClampNeg).toInt := congrArg Int32.toInt (show q_R d39 (Ad ad 113) (x2).toNatClampNeg = _ by rw [e40]; rfl)
      have f95 : (q_R d20 (Ad ad 113) (x2).toNatClampNeg).toInt = (q_R δ (Ad ad 113) (x2).toNatClampNeg).toInt := congrArg Int32.toInt (show q_R d20 (Ad ad 113) (x2).toNatClampNeg = _ by rw [e21]; rfl)
      have f96 := ti_b (q_R d20 (Ad ad 113) (x2).toNatClampNeg)
      have f97 := ti_b (q_R d39 (Ad ad 113) (x2).toNatClampNeg)
      have f98 := ti_b (q_R d53 (Ad ad 113) (x2).toNatClampNeg)
      refine ok_mono (kj_X12_steps_203 L hN (a0 := a0) (x1 := x1) (x2 := x2) (xs0 := (1 : Int32)) (as1 := a0) (x3v := x3v) (x5v := r67.1) k_a0 k_a0 (show 0 ≤ (x1).toInt by first | with_reducible assumption | omega) (show (x1).toInt ≤ 3 by first | with_reducible assumption | omega) (show 0 ≤ (x2).toInt by first | with_reducible assumption | omega) (show (x2).toInt < 240 by first | with_reducible assumption | omega) (show 0 ≤ (x3v).toInt by first | with_reducible assumption | omega) (show (x3v).toInt ≤ 65535 by first | with_reducible assumption | omega) (show (q_R d53 (Ad ad 113) (x2).toNatClampNeg).toInt = 0 → (q_R d53 (Ad ad 103) (x1).toNatClampNeg).toInt < 2000 by first | with_reducible assumption | omega) (show (r67.1).toInt = 0 ∨ 1 ≤ (q_R d53 (Ad ad 103) (x1).toNatClampNeg).toInt by first | with_reducible assumption | omega) i55) (fun r99 hr100 => ?_)
      obtain ⟨i101, ⟨u103, u104, u105, u106⟩, p102⟩ := hr100
      have u107 := kp_t u63 u103
      have v108 : q_V r99.2 = q_V δ := (u104).trans v64
      have v109 := kr_t v65 u105
      have v110 : sgk ad x1.toNatClampNeg δ r99.2 := sgk_t v66 u106
      have f111 := bo_l p102
      have f112 := ti_b r99.1
      exact ⟨by first | with_reducible assumption | assumption, ⟨kp_w (by decide) u107, v108, kr_w (by decide) v109, v110⟩, by first | with_reducible assumption | omega⟩
    · have c113 : r67.1.toInt ≠ (0 : Int) := o_ne h91
      have f114 : (q_R d53 (Ad ad 113) (x2).toNatClampNeg).toInt = (q_R d39 (Ad ad 113) (x2).toNatClampNeg).toInt := congrArg Int32.toInt (show q_R d53 (Ad ad 113) (x2).toNatClampNeg = _ by rw [e54]; rfl)
      have f115 : (q_R d39 (Ad ad 113) (x2).toNatClampNeg).toInt = (q_R d20 (Ad ad 113) (x2).toNatClampNeg).toInt := congrArg Int32.toInt (show q_R d39 (Ad ad 113) (x2).toNatClampNeg = _ by rw [e40]; rfl)
      have f116 : (q_R d20 (Ad ad 113) (x2).toNatClampNeg).toInt = (q_R δ (Ad ad 113) (x2).toNatClampNeg).toInt := congrArg Int32.toInt (show q_R d20 (Ad ad 113) (x2).toNatClampNeg = _ by rw [e21]; rfl)
      have f117 := ti_b (q_R d20 (Ad ad 113) (x2).toNatClampNeg)
      have f118 := ti_b (q_R d39 (Ad ad 113) (x2).toNatClampNeg)
      have f119 := ti_b (q_R d53 (Ad ad 113) (x2).toNatClampNeg)
      refine ok_mono (kj_X12_steps_203 L hN (a0 := a0) (x1 := x1) (x2 := x2) (xs0 := (0 : Int32)) (as1 := a0) (x3v := x3v) (x5v := r67.1) k_a0 k_a0 (show 0 ≤ (x1).toInt by first | with_reducible assumption | omega) (show (x1).toInt ≤ 3 by first | with_reducible assumption | omega) (show 0 ≤ (x2).toInt by first | with_reducible assumption | omega) (show (x2).toInt < 240 by first | with_reducible assumption | omega) (show 0 ≤ (x3v).toInt by first | with_reducible assumption | omega) (show (x3v).toInt ≤ 65535 by first | with_reducible assumption | omega) (show (q_R d53 (Ad ad 113) (x2).toNatClampNeg).toInt = 0 → (q_R d53 (Ad ad 103) (x1).toNatClampNeg).toInt < 2000 by first | with_reducible assumption | omega) (show (r67.1).toInt = 0 ∨ 1 ≤ (q_R d53 (Ad ad 103) (x1).toNatClampNeg).toInt by first | with_reducible assumption | omega) i55) (fun r120 hr121 => ?_)
      obtain ⟨i122, ⟨u124, u125, u126, u127⟩, p123⟩ := hr121
      have u128 := kp_t u63 u124
      have v129 : q_V r120.2 = q_V δ := (u125).trans v64
      have v130 := kr_t v65 u126
      have v131 : sgk ad x1.toNatClampNeg δ r120.2 := sgk_t v66 u127
      have f132 := bo_l p123
      have f133 := ti_b r120.1
      exact ⟨by first | with_reducible assumption | assumption, ⟨kp_w (by decide) u128, v129, kr_w (by decide) v130, v131⟩, by first | with_reducible assumption | omega⟩
  · have c134 : (q_R d53 (Ad ad 113) x2.toNatClampNeg).toInt ≠ (0 : Int) := o_ne h89
    refine ok_at o9 ?_
    refine ok_gd (fun hc135 => ?_) ?_
    · rcases hc135 with hc135 | hc135
      · have c136 : x2.toInt < (0 : Int) := o_lt hc135
        omega
      · omega
    refine ok_bind (k_X12_answer L hN (a0 := a0) (x1 := x1) (x2 := (q_R d53 (Ad ad 113) x2.toNatClampNeg)) (x3 := x3v) k_a0 (show 0 ≤ (x1).toInt by first | with_reducible assumption | omega) (show (x1).toInt ≤ 3 by first | with_reducible assumption | omega) i55) (fun r137 hr138 => ?_)
    have i139 := hr138
    try rw [i139]
    have f140 := ti_b r137.1
    have f141 : (q_R d53 (Ad ad 113) (x2).toNatClampNeg).toInt = (q_R d39 (Ad ad 113) (x2).toNatClampNeg).toInt := congrArg Int32.toInt (show q_R d53 (Ad ad 113) (x2).toNatClampNeg = _ by rw [e54]; rfl)
    have f142 : (q_R d39 (Ad ad 113) (x2).toNatClampNeg).toInt = (q_R d20 (Ad ad 113) (x2).toNatClampNeg).toInt := congrArg Int32.toInt (show q_R d39 (Ad ad 113) (x2).toNatClampNeg = _ by rw [e40]; rfl)
    have f143 : (q_R d20 (Ad ad 113) (x2).toNatClampNeg).toInt = (q_R δ (Ad ad 113) (x2).toNatClampNeg).toInt := congrArg Int32.toInt (show q_R d20 (Ad ad 113) (x2).toNatClampNeg = _ by rw [e21]; rfl)
    have f144 := ti_b (q_R d20 (Ad ad 113) (x2).toNatClampNeg)
    have f145 := ti_b (q_R d39 (Ad ad 113) (x2).toNatClampNeg)
    have f146 := ti_b (q_R d53 (Ad ad 113) (x2).toNatClampNeg)
    refine ok_mono (kj_X12_steps_203 L hN (a0 := a0) (x1 := x1) (x2 := x2) (xs0 := r137.1) (as1 := a0) (x3v := x3v) (x5v := r67.1) k_a0 k_a0 (show 0 ≤ (x1).toInt by first | with_reducible assumption | omega) (show (x1).toInt ≤ 3 by first | with_reducible assumption | omega) (show 0 ≤ (x2).toInt by first | with_reducible assumption | omega) (show (x2).toInt < 240 by first | with_reducible assumption | omega) (show 0 ≤ (x3v).toInt by first | with_reducible assumption | omega) (show (x3v).toInt ≤ 65535 by first | with_reducible assumption | omega) (show (q_R d53 (Ad ad 113) (x2).toNatClampNeg).toInt = 0 → (q_R d53 (Ad ad 103) (x1).toNatClampNeg).toInt < 2000 by first | with_reducible assumption | omega) (show (r67.1).toInt = 0 ∨ 1 ≤ (q_R d53 (Ad ad 103) (x1).toNatClampNeg).toInt by first | with_reducible assumption | omega) i55) (fun r147 hr148 => ?_)
    obtain ⟨i149, ⟨u151, u152, u153, u154⟩, p150⟩ := hr148
    have u155 := kp_t u63 u151
    have v156 : q_V r147.2 = q_V δ := (u152).trans v64
    have v157 := kr_t v65 u153
    have v158 : sgk ad x1.toNatClampNeg δ r147.2 := sgk_t v66 u154
    have f159 := bo_l p150
    have f160 := ti_b r147.1
    exact ⟨by first | with_reducible assumption | assumption, ⟨kp_w (by decide) u155, v156, kr_w (by decide) v157, v158⟩, by first | with_reducible assumption | omega⟩
set_option maxHeartbeats 4000000 in
theorem kj_X12_steps_60 {ad : List Nat} {h : hp} (L : Lay TLx ad h) {δ0 : dp} {N : Nat} (hN : 10000000 ≤ N) {a0 : Nat} {x1 : Int32} {x2 : Int32} {x3v : Int32} (k_a0 : q_K h.1 a0 = 12) {δ : dp} (z0 : 0 ≤ (x1).toInt) (z1 : (x1).toInt ≤ 3) (z2 : 0 ≤ (x2).toInt) (z3 : (x2).toInt < 240) (z4 : 0 ≤ (x3v).toInt) (z5 : (x3v).toInt ≤ 65535) (z6 : (q_R δ (Ad ad 113) (x2).toNatClampNeg).toInt = 0 → (q_R δ (Ad ad 103) (x1).toNatClampNeg).toInt < 2000) (I : RI ad h.1 δ0 δ) : ok (J_X12_steps_60 N h.1 a0 x1 x2 x3v δ) (fun r => RI ad h.1 δ0 r.2 ∧ (kp [(12, 36), (12, 49), (12, 50), (12, 51), (12, 52), (12, 53), (12, 54), (12, 55), (12, 56)] δ r.2 ∧ q_V r.2 = q_V δ ∧ kr ad [102, 103, 118, 119] δ r.2 ∧ sgk ad x1.toNatClampNeg δ r.2) ∧ bo (r.1)) := by
  unfold J_X12_steps_60
  have f1 := ti_b x1
  have f2 := ti_b x2
  have f3 := ti_b x3v
  have t4 := ti_tn x2
  have f5 := ti_b (q_R δ (Ad ad 113) (x2).toNatClampNeg)
  have t6 := ti_tn x1
  have f7 := rb_103 L I (x1).toNatClampNeg
  obtain ⟨b8, o9, k10, n11, w12⟩ := gO_12_29 L k_a0
  obtain rfl := gS_12_29 L k_a0 o9
  refine ok_at o9 ?_
  have t13 := ti_tn x2
  refine ok_gd (fun hc14 => ?_) ?_
  · rcases hc14 with hc14 | hc14
    · have c15 : x2.toInt < (0 : Int) := o_lt hc14
      omega
    · omega
  refine ok_bind (k_X12_halves L hN (a0 := a0) (x1 := x1) (x2 := (q_R δ (Ad ad 113) x2.toNatClampNeg)) (x3 := x3v) k_a0 (show 0 ≤ (x1).toInt by first | with_reducible assumption | omega) (show (x1).toInt ≤ 3 by first | with_reducible assumption | omega) I) (fun r16 hr17 => ?_)
  obtain ⟨i18, ⟨u19, u20, u21⟩⟩ := hr17
  have u22 := kp_t kp_r u19
  have v23 : q_V r16.2 = q_V δ := (u20).trans rfl
  have v24 := kr_t (kr_r (ad := ad)) u21
  have v25 : sgk ad x1.toNatClampNeg δ r16.2 := sgk_t sgk_r (sgk_k (u21 102 (by decide) (by decide) (by decide)) (u21 103 (by decide) (by decide) (by decide)))
  have f26 := ti_b r16.1
  have f30 : (q_I r16.2 12 52 a0).toInt = (q_I δ 12 52 a0).toInt := congrArg Int32.toInt (u19 12 52 a0 (by decide))
  have f31 := ti_b (q_I δ 12 52 a0)
  first | (have q33 := te_add (q_I r16.2 12 52 a0) r16.1 (by omega) (by omega); obtain ⟨f34, f35, f36⟩ := q33) | (obtain ⟨q33, f34, f35, f36⟩ := ti_add (q_I r16.2 12 52 a0) r16.1)
  refine ok_bdv (fun d27 e28 => ?_)
  have i29 : RI ad h.1 δ0 d27 := by rw [e28]; exact cs_12_52 L i18
  have u37 := kp_I u22 e28
  have v38 : q_V d27 = q_V δ := ((show q_V d27 = q_V r16.2 by rw [e28]; rfl)).trans v23
  have v39 := kr_N v24 (show q_R d27 = q_R r16.2 by rw [e28]; rfl)
  have v40 : sgk ad x1.toNatClampNeg δ d27 := sgk_t v25 ((show sgk ad x1.toNatClampNeg r16.2 d27 by rw [e28]; exact sgk_r))
  have f41 : (q_I d27 12 53 a0).toInt = (q_I δ 12 53 a0).toInt := ((show (q_I d27 12 53 a0).toInt = (q_I r16.2 12 53 a0).toInt from congrArg Int32.toInt (by rw [e28]; exact rI_o (by decide))).trans (show (q_I r16.2 12 53 a0).toInt = (q_I δ 12 53 a0).toInt from congrArg Int32.toInt (u19 12 53 a0 (by decide))))
  have f42 := ti_b (q_I δ 12 53 a0)
  refine ok_ite (fun h43 => ?_) (fun h43 => ?_)
  · have c44 : r16.1.toInt ≤ (q_I d27 12 53 a0).toInt := o_le h43
    have f45 : (q_R d27 (Ad ad 113) (x2).toNatClampNeg).toInt = (q_R r16.2 (Ad ad 113) (x2).toNatClampNeg).toInt := congrArg Int32.toInt (show q_R d27 (Ad ad 113) (x2).toNatClampNeg = _ by rw [e28]; rfl)
    have f46 : (q_R r16.2 (Ad ad 113) (x2).toNatClampNeg).toInt = (q_R δ (Ad ad 113) (x2).toNatClampNeg).toInt := congrArg Int32.toInt (congrFun (u21 113 (by decide) (by decide) (by decide)) _)
    have f47 := ti_b (q_R r16.2 (Ad ad 113) (x2).toNatClampNeg)
    have f48 := ti_b (q_R d27 (Ad ad 113) (x2).toNatClampNeg)
    have f49 : (q_R d27 (Ad ad 103) (x1).toNatClampNeg).toInt = (q_R r16.2 (Ad ad 103) (x1).toNatClampNeg).toInt := congrArg Int32.toInt (show q_R d27 (Ad ad 103) (x1).toNatClampNeg = _ by rw [e28]; rfl)
    have f50 : (q_R r16.2 (Ad ad 103) (x1).toNatClampNeg).toInt = (q_R δ (Ad ad 103) (x1).toNatClampNeg).toInt := congrArg Int32.toInt (congrFun (u21 103 (by decide) (by decide) (by decide)) _)
    have f51 := rb_103 L i18 (x1).toNatClampNeg
    have f52 := rb_103 L i29 (x1).toNatClampNeg
    refine ok_mono (kj_X12_steps_108 L hN (a0 := a0) (x1 := x1) (x2 := x2) (x3v := x3v) k_a0 (show 0 ≤ (x1).toInt by first | with_reducible assumption | omega) (show (x1).toInt ≤ 3 by first | with_reducible assumption | omega) (show 0 ≤ (x2).toInt by first | with_reducible assumption | omega) (show (x2).toInt < 240 by first | with_reducible assumption | omega) (show 0 ≤ (x3v).toInt by first | with_reducible assumption | omega) (show (x3v).toInt ≤ 65535 by first | with_reducible assumption | omega) (show (q_R d27 (Ad ad 113) (x2).toNatClampNeg).toInt = 0 → (q_R d27 (Ad ad 103) (x1).toNatClampNeg).toInt < 2000 by first | with_reducible assumption | omega) i29) (fun r53 hr54 => ?_)
    obtain ⟨i55, ⟨u57, u58, u59, u60⟩, p56⟩ := hr54
    have u61 := kp_t u37 u57
    have v62 : q_V r53.2 = q_V δ := (u58).trans v38
    have v63 := kr_t v39 u59
    have v64 : sgk ad x1.toNatClampNeg δ r53.2 := sgk_t v40 u60
    have f65 := bo_l p56
    have f66 := ti_b r53.1
    exact ⟨by first | with_reducible assumption | assumption, ⟨kp_w (by decide) u61, v62, kr_w (by decide) v63, v64⟩, by first | with_reducible assumption | omega⟩
  · have c67 : (q_I d27 12 53 a0).toInt < r16.1.toInt := o_nle h43
    refine ok_bdv (fun d68 e69 => ?_)
    have i70 : RI ad h.1 δ0 d68 := by rw [e69]; exact cs_12_53 L i29
    have u71 := kp_I u37 e69
    have v72 : q_V d68 = q_V δ := ((show q_V d68 = q_V d27 by rw [e69]; rfl)).trans v38
    have v73 := kr_N v39 (show q_R d68 = q_R d27 by rw [e69]; rfl)
    have v74 : sgk ad x1.toNatClampNeg δ d68 := sgk_t v40 ((show sgk ad x1.toNatClampNeg d27 d68 by rw [e69]; exact sgk_r))
    have f78 : (q_I d68 12 51 a0).toInt = (q_I δ 12 51 a0).toInt := ((show (q_I d68 12 51 a0).toInt = (q_I d27 12 51 a0).toInt from congrArg Int32.toInt (by rw [e69]; exact rI_o (by decide))).trans ((show (q_I d27 12 51 a0).toInt = (q_I r16.2 12 51 a0).toInt from congrArg Int32.toInt (by rw [e28]; exact rI_o (by decide))).trans (show (q_I r16.2 12 51 a0).toInt = (q_I δ 12 51 a0).toInt from congrArg Int32.toInt (u19 12 51 a0 (by decide)))))
    have f79 := ti_b (q_I δ 12 51 a0)
    refine ok_bdv (fun d75 e76 => ?_)
    have i77 : RI ad h.1 δ0 d75 := by rw [e76]; exact cs_12_54 L i70
    have u80 := kp_I u71 e76
    have v81 : q_V d75 = q_V δ := ((show q_V d75 = q_V d68 by rw [e76]; rfl)).trans v72
    have v82 := kr_N v73 (show q_R d75 = q_R d68 by rw [e76]; rfl)
    have v83 : sgk ad x1.toNatClampNeg δ d75 := sgk_t v74 ((show sgk ad x1.toNatClampNeg d68 d75 by rw [e76]; exact sgk_r))
    have f84 : (q_R d75 (Ad ad 113) (x2).toNatClampNeg).toInt = (q_R d68 (Ad ad 113) (x2).toNatClampNeg).toInt := congrArg Int32.toInt (show q_R d75 (Ad ad 113) (x2).toNatClampNeg = _ by rw [e76]; rfl)
    have f85 : (q_R d68 (Ad ad 113) (x2).toNatClampNeg).toInt = (q_R d27 (Ad ad 113) (x2).toNatClampNeg).toInt := congrArg Int32.toInt (show q_R d68 (Ad ad 113) (x2).toNatClampNeg = _ by rw [e69]; rfl)
    have f86 : (q_R d27 (Ad ad 113) (x2).toNatClampNeg).toInt = (q_R r16.2 (Ad ad 113) (x2).toNatClampNeg).toInt := congrArg Int32.toInt (show q_R d27 (Ad ad 113) (x2).toNatClampNeg = _ by rw [e28]; rfl)
    have f87 : (q_R r16.2 (Ad ad 113) (x2).toNatClampNeg).toInt = (q_R δ (Ad ad 113) (x2).toNatClampNeg).toInt := congrArg Int32.toInt (congrFun (u21 113 (by decide) (by decide) (by decide)) _)
    have f88 := ti_b (q_R r16.2 (Ad ad 113) (x2).toNatClampNeg)
    have f89 := ti_b (q_R d27 (Ad ad 113) (x2).toNatClampNeg)
    have f90 := ti_b (q_R d68 (Ad ad 113) (x2).toNatClampNeg)
    have f91 := ti_b (q_R d75 (Ad ad 113) (x2).toNatClampNeg)
    have f92 : (q_R d75 (Ad ad 103) (x1).toNatClampNeg).toInt = (q_R d68 (Ad ad 103) (x1).toNatClampNeg).toInt := congrArg Int32.toInt (show q_R d75 (Ad ad 103) (x1).toNatClampNeg = _ by rw [e76]; rfl)
    have f93 : (q_R d68 (Ad ad 103) (x1).toNatClampNeg).toInt = (q_R d27 (Ad ad 103) (x1).toNatClampNeg).toInt := congrArg Int32.toInt (show q_R d68 (Ad ad 103) (x1).toNatClampNeg = _ by rw [e69]; rfl)
    have f94 : (q_R d27 (Ad ad 103) (x1).toNatClampNeg).toInt = (q_R r16.2 (Ad ad 103) (x1).toNatClampNeg).toInt := congrArg Int32.toInt (show q_R d27 (Ad ad 103) (x1).toNatClampNeg = _ by rw [e28]; rfl)
    have f95 : (q_R r16.2 (Ad ad 103) (x1).toNatClampNeg).toInt = (q_R δ (Ad ad 103) (x1).toNatClampNeg).toInt := congrArg Int32.toInt (congrFun (u21 103 (by decide) (by decide) (by decide)) _)
    have f96 := rb_103 L i18 (x1).toNatClampNeg
    have f97 := rb_103 L i29 (x1).toNatClampNeg
    have f98 := rb_103 L i70 (x1).toNatClampNeg
    have f99 := rb_103 L i77 (x1).toNatClampNeg
    refine ok_mono (kj_X12_steps_108 L hN (a0 := a0) (x1 := x1) (x2 := x2) (x3v := x3v) k_a0 (show 0 ≤ (x1).toInt by first | with_reducible assumption | omega) (show (x1).toInt ≤ 3 by first | with_reducible assumption | omega) (show 0 ≤ (x2).toInt by first | with_reducible assumption | omega) (show (x2).toInt < 240 by first | with_reducible assumption | omega) (show 0 ≤ (x3v).toInt by first | with_reducible assumption | omega) (show (x3v).toInt ≤ 65535 by first | with_reducible assumption | omega) (show (q_R d75 (Ad ad 113) (x2).toNatClampNeg).toInt = 0 → (q_R d75 (Ad ad 103) (x1).toNatClampNeg).toInt < 2000 by first | with_reducible assumption | omega) i77) (fun r100 hr101 => ?_)
    obtain ⟨i102, ⟨u104, u105, u106, u107⟩, p103⟩ := hr101
    have u108 := kp_t u80 u104
    have v109 : q_V r100.2 = q_V δ := (u105).trans v81
    have v110 := kr_t v82 u106
    have v111 : sgk ad x1.toNatClampNeg δ r100.2 := sgk_t v83 u107
    have f112 := bo_l p103
    have f113 := ti_b r100.1
    exact ⟨by first | with_reducible assumption | assumption, ⟨kp_w (by decide) u108, v109, kr_w (by decide) v110, v111⟩, by first | with_reducible assumption | omega⟩
set_option maxHeartbeats 4000000 in
theorem k_X12_steps {ad : List Nat} {h : hp} (L : Lay TLx ad h) {δ0 : dp} {N : Nat} (hN : 10000000 ≤ N) {a0 : Nat} {x1 : Int32} {x2 : Int32} (k_a0 : q_K h.1 a0 = 12) {δ : dp} (z0 : 0 ≤ (x1).toInt) (z1 : (x1).toInt ≤ 3) (z2 : 0 ≤ (x2).toInt) (z3 : (x2).toInt < 240) (z4 : 0 ≤ (q_R δ (Ad ad 114) (x2).toNatClampNeg).toInt) (z5 : (q_R δ (Ad ad 114) (x2).toNatClampNeg).toInt ≤ (q_R δ (Ad ad 115) (x2).toNatClampNeg).toInt) (z6 : (q_R δ (Ad ad 115) (x2).toNatClampNeg).toInt ≤ 2000) (z7 : (q_R δ (Ad ad 115) (x2).toNatClampNeg).toInt ≤ (q_R δ (Ad ad 114) (x2).toNatClampNeg).toInt + 500) (z8 : 0 ≤ (q_I δ 12 58 a0).toInt) (z9 : (q_I δ 12 58 a0).toInt ≤ 4) (z10 : rn (q_R δ (Ad ad 116)) ((q_R δ (Ad ad 115) (x2).toNatClampNeg).toInt.toNat - (q_R δ (Ad ad 114) (x2).toNatClampNeg).toInt.toNat) (q_R δ (Ad ad 114) (x2).toNatClampNeg).toInt.toNat 0 = some 1) (I : RI ad h.1 δ0 δ) : ok (D_X12_steps N h.1 a0 x1 x2 δ) (fun r => RI ad h.1 δ0 r.2 ∧ (kp [(12, 36), (12, 49), (12, 50), (12, 51), (12, 52), (12, 53), (12, 54), (12, 55), (12, 56)] δ r.2 ∧ q_V r.2 = q_V δ ∧ kr ad [102, 103, 118, 119] δ r.2 ∧ sgk ad x1.toNatClampNeg δ r.2) ∧ bo (r.1)) := by
  unfold D_X12_steps
  have f1 := ti_b x1
  have f2 := ti_b x2
  have t3 := ti_tn x2
  have f4 := ti_b (q_R δ (Ad ad 114) (x2).toNatClampNeg)
  have f5 := ti_b (q_R δ (Ad ad 115) (x2).toNatClampNeg)
  have f6 := ti_b (q_I δ 12 58 a0)
  have f7 := ti_b (q_I δ 12 51 a0)
  refine ok_ite (fun h8 => ?_) (fun h8 => ?_)
  · have c9 : (q_I δ 12 51 a0).toInt = (2000 : Int) := o_eq h8
    refine ok_gp (by decide) ?_
    exact ok_some (show RI ad h.1 δ0 δ ∧ (kp [(12, 36), (12, 49), (12, 50), (12, 51), (12, 52), (12, 53), (12, 54), (12, 55), (12, 56)] δ δ ∧ q_V δ = q_V δ ∧ kr ad [102, 103, 118, 119] δ δ ∧ sgk ad x1.toNatClampNeg δ δ) ∧ bo ((0 : Int32)) from ⟨I, ⟨kp_w (by decide) kp_r, rfl, kr_w (by decide) (kr_r (ad := ad)), sgk_r⟩, bo_0⟩)
  · have c10 : (q_I δ 12 51 a0).toInt ≠ (2000 : Int) := o_ne h8
    obtain ⟨b11, o12, k13, n14, w15⟩ := gO_12_30 L k_a0
    obtain rfl := gS_12_30 L k_a0 o12
    refine ok_at o12 ?_
    have t16 := ti_tn x2
    refine ok_gd (fun hc17 => ?_) ?_
    · rcases hc17 with hc17 | hc17
      · have c18 : x2.toInt < (0 : Int) := o_lt hc17
        omega
      · omega
    obtain ⟨b19, o20, k21, n22, w23⟩ := gO_12_31 L k_a0
    obtain rfl := gS_12_31 L k_a0 o20
    refine ok_at o20 ?_
    refine ok_gd (fun hc24 => ?_) ?_
    · rcases hc24 with hc24 | hc24
      · have c25 : x2.toInt < (0 : Int) := o_lt hc24
        omega
      · omega
    have f28 := ti_b (q_R δ (Ad ad 114) x2.toNatClampNeg)
    have f29 := ti_b (q_R δ (Ad ad 115) x2.toNatClampNeg)
    refine ok_bind (k_X12_worked L hN (a0 := a0) (x1 := x1) (x2 := (q_R δ (Ad ad 114) x2.toNatClampNeg)) (x3 := (q_R δ (Ad ad 115) x2.toNatClampNeg)) k_a0 (show 0 ≤ (x1).toInt by first | with_reducible assumption | omega) (show (x1).toInt ≤ 3 by first | with_reducible assumption | omega) (show 0 ≤ ((q_R δ (Ad ad 114) x2.toNatClampNeg)).toInt by first | with_reducible assumption | omega) (show ((q_R δ (Ad ad 114) x2.toNatClampNeg)).toInt ≤ ((q_R δ (Ad ad 115) x2.toNatClampNeg)).toInt by first | with_reducible assumption | omega) (show ((q_R δ (Ad ad 115) x2.toNatClampNeg)).toInt ≤ 2000 by first | with_reducible assumption | omega) (show ((q_R δ (Ad ad 115) x2.toNatClampNeg)).toInt ≤ ((q_R δ (Ad ad 114) x2.toNatClampNeg)).toInt + 500 by first | with_reducible assumption | omega) (show 0 ≤ (q_I δ 12 58 a0).toInt by first | with_reducible assumption | omega) (show (q_I δ 12 58 a0).toInt ≤ 4 by first | with_reducible assumption | omega) (show rn (q_R δ (Ad ad 116)) (((q_R δ (Ad ad 115) x2.toNatClampNeg)).toInt.toNat - ((q_R δ (Ad ad 114) x2.toNatClampNeg)).toInt.toNat) ((q_R δ (Ad ad 114) x2.toNatClampNeg)).toInt.toNat 0 = some 1 by first | with_reducible assumption | omega) I) (fun r26 hr27 => ?_)
    obtain ⟨i30, ⟨u31, u32, u33⟩⟩ := hr27
    have u34 := kp_t kp_r u31
    have v35 : q_V r26.2 = q_V δ := (u32).trans rfl
    have v36 := kr_t (kr_r (ad := ad)) u33
    have v37 : sgk ad x1.toNatClampNeg δ r26.2 := sgk_t sgk_r (sgk_k (u33 102 (by decide) (by decide) (by decide)) (u33 103 (by decide) (by decide) (by decide)))
    have f38 := ti_b r26.1
    refine ok_bind (k_X12_all L hN (a0 := a0) k_a0 i30) (fun r39 hr40 => ?_)
    obtain ⟨i41, p42, p43, p44, p45⟩ := hr40
    try rw [i41]
    have f46 := ti_b r39.1
    have f47 : (q_I r26.2 12 10 a0).toInt = (q_I δ 12 10 a0).toInt := congrArg Int32.toInt (u31 12 10 a0 (by decide))
    have f48 := cb_12_10 I k_a0
    first | (have q52 := te_subc (c := 1) (n := 1) rfl r39.1 (by omega) (by omega); obtain ⟨f53, f54, f55⟩ := q52) | (obtain ⟨q52, f53, f54, f55⟩ := ti_subc (c := 1) (n := 1) rfl r39.1)
    have f56 := an_le (a := r26.1) (b := (r39.1 - (1 : Int32))) (by omega)
    have f57 := ti_b (r26.1 &&& (r39.1 - (1 : Int32)))
    refine ok_biv (fun vx49 e50 => ?_)
    have f58 : vx49.toInt = (r26.1 &&& (r39.1 - (1 : Int32))).toInt := congrArg Int32.toInt e50
    obtain ⟨b59, o60, k61, n62, w63⟩ := gO_12_29 L k_a0
    obtain rfl := gS_12_29 L k_a0 o60
    refine ok_at o60 ?_
    refine ok_gd (fun hc64 => ?_) ?_
    · rcases hc64 with hc64 | hc64
      · have c65 : x2.toInt < (0 : Int) := o_lt hc64
        omega
      · omega
    have f66 : (q_R r26.2 (Ad ad 113) x2.toNatClampNeg).toInt = (q_R δ (Ad ad 113) x2.toNatClampNeg).toInt := congrArg Int32.toInt (congrFun (u33 113 (by decide) (by decide) (by decide)) _)
    have f67 := ti_b (q_R δ (Ad ad 113) x2.toNatClampNeg)
    have f68 := ti_b (q_R r26.2 (Ad ad 113) x2.toNatClampNeg)
    refine ok_ite (fun h69 => ?_) (fun h69 => ?_)
    · have c70 : (q_R r26.2 (Ad ad 113) x2.toNatClampNeg).toInt = (0 : Int) := o_eq h69
      obtain ⟨b71, o72, k73, n74⟩ := gO_12_14 L k_a0
      obtain rfl := gS_12_14 L k_a0 o72
      refine ok_at o72 ?_
      have t75 := ti_tn x1
      refine ok_gd (fun hc76 => ?_) ?_
      · rcases hc76 with hc76 | hc76
        · have c77 : x1.toInt < (0 : Int) := o_lt hc76
          omega
        · omega
      have f78 : (q_R r26.2 (Ad ad 103) x1.toNatClampNeg).toInt = (q_R δ (Ad ad 103) x1.toNatClampNeg).toInt := congrArg Int32.toInt (congrFun (u33 103 (by decide) (by decide) (by decide)) _)
      have f79 := rb_103 L I x1.toNatClampNeg
      have f80 := rb_103 L i30 x1.toNatClampNeg
      refine ok_ite (fun h81 => ?_) (fun h81 => ?_)
      · have c82 : (q_R r26.2 (Ad ad 103) x1.toNatClampNeg).toInt = (2000 : Int) := o_eq h81
        refine ok_gp (by decide) ?_
        exact ok_some (show RI ad h.1 δ0 r26.2 ∧ (kp [(12, 36), (12, 49), (12, 50), (12, 51), (12, 52), (12, 53), (12, 54), (12, 55), (12, 56)] δ r26.2 ∧ q_V r26.2 = q_V δ ∧ kr ad [102, 103, 118, 119] δ r26.2 ∧ sgk ad x1.toNatClampNeg δ r26.2) ∧ bo ((0 : Int32)) from ⟨i30, ⟨kp_w (by decide) u34, v35, kr_w (by decide) v36, v37⟩, bo_0⟩)
      · have c83 : (q_R r26.2 (Ad ad 103) x1.toNatClampNeg).toInt ≠ (2000 : Int) := o_ne h81
        have f84 : (q_R r26.2 (Ad ad 113) (x2).toNatClampNeg).toInt = (q_R δ (Ad ad 113) (x2).toNatClampNeg).toInt := congrArg Int32.toInt (congrFun (u33 113 (by decide) (by decide) (by decide)) _)
        have f85 := ti_b (q_R δ (Ad ad 113) (x2).toNatClampNeg)
        have f86 := ti_b (q_R r26.2 (Ad ad 113) (x2).toNatClampNeg)
        have t87 := ti_tn x1
        have f88 : (q_R r26.2 (Ad ad 103) (x1).toNatClampNeg).toInt = (q_R δ (Ad ad 103) (x1).toNatClampNeg).toInt := congrArg Int32.toInt (congrFun (u33 103 (by decide) (by decide) (by decide)) _)
        have f89 := rb_103 L I (x1).toNatClampNeg
        have f90 := rb_103 L i30 (x1).toNatClampNeg
        refine ok_mono (kj_X12_steps_60 L hN (a0 := a0) (x1 := x1) (x2 := x2) (x3v := vx49) k_a0 (show 0 ≤ (x1).toInt by first | with_reducible assumption | omega) (show (x1).toInt ≤ 3 by first | with_reducible assumption | omega) (show 0 ≤ (x2).toInt by first | with_reducible assumption | omega) (show (x2).toInt < 240 by first | with_reducible assumption | omega) (show 0 ≤ (vx49).toInt by first | with_reducible assumption | omega) (show (vx49).toInt ≤ 65535 by first | with_reducible assumption | omega) (show (q_R r26.2 (Ad ad 113) (x2).toNatClampNeg).toInt = 0 → (q_R r26.2 (Ad ad 103) (x1).toNatClampNeg).toInt < 2000 by first | with_reducible assumption | omega) i30) (fun r91 hr92 => ?_)
        obtain ⟨i93, ⟨u95, u96, u97, u98⟩, p94⟩ := hr92
        have u99 := kp_t u34 u95
        have v100 : q_V r91.2 = q_V δ := (u96).trans v35
        have v101 := kr_t v36 u97
        have v102 : sgk ad x1.toNatClampNeg δ r91.2 := sgk_t v37 u98
        have f103 := bo_l p94
        have f104 := ti_b r91.1
        exact ⟨by first | with_reducible assumption | assumption, ⟨kp_w (by decide) u99, v100, kr_w (by decide) v101, v102⟩, by first | with_reducible assumption | omega⟩
    · have c105 : (q_R r26.2 (Ad ad 113) x2.toNatClampNeg).toInt ≠ (0 : Int) := o_ne h69
      have f106 : (q_R r26.2 (Ad ad 113) (x2).toNatClampNeg).toInt = (q_R δ (Ad ad 113) (x2).toNatClampNeg).toInt := congrArg Int32.toInt (congrFun (u33 113 (by decide) (by decide) (by decide)) _)
      have f107 := ti_b (q_R δ (Ad ad 113) (x2).toNatClampNeg)
      have f108 := ti_b (q_R r26.2 (Ad ad 113) (x2).toNatClampNeg)
      have t109 := ti_tn x1
      have f110 : (q_R r26.2 (Ad ad 103) (x1).toNatClampNeg).toInt = (q_R δ (Ad ad 103) (x1).toNatClampNeg).toInt := congrArg Int32.toInt (congrFun (u33 103 (by decide) (by decide) (by decide)) _)
      have f111 := rb_103 L I (x1).toNatClampNeg
      have f112 := rb_103 L i30 (x1).toNatClampNeg
      refine ok_mono (kj_X12_steps_60 L hN (a0 := a0) (x1 := x1) (x2 := x2) (x3v := vx49) k_a0 (show 0 ≤ (x1).toInt by first | with_reducible assumption | omega) (show (x1).toInt ≤ 3 by first | with_reducible assumption | omega) (show 0 ≤ (x2).toInt by first | with_reducible assumption | omega) (show (x2).toInt < 240 by first | with_reducible assumption | omega) (show 0 ≤ (vx49).toInt by first | with_reducible assumption | omega) (show (vx49).toInt ≤ 65535 by first | with_reducible assumption | omega) (show (q_R r26.2 (Ad ad 113) (x2).toNatClampNeg).toInt = 0 → (q_R r26.2 (Ad ad 103) (x1).toNatClampNeg).toInt < 2000 by first | with_reducible assumption | omega) i30) (fun r113 hr114 => ?_)
      obtain ⟨i115, ⟨u117, u118, u119, u120⟩, p116⟩ := hr114
      have u121 := kp_t u34 u117
      have v122 : q_V r113.2 = q_V δ := (u118).trans v35
      have v123 := kr_t v36 u119
      have v124 : sgk ad x1.toNatClampNeg δ r113.2 := sgk_t v37 u120
      have f125 := bo_l p116
      have f126 := ti_b r113.1
      exact ⟨by first | with_reducible assumption | assumption, ⟨kp_w (by decide) u121, v122, kr_w (by decide) v123, v124⟩, by first | with_reducible assumption | omega⟩
end
section
/-! a THIEF goes: his loops are no deeper than they were read -/
/-- what may have changed meanwhile -/
def GQ (ad : List Nat) (g : gp) (δ0 : dp) (H : Nat) (δ δ1 : dp) : Prop := RI ad g δ0 δ1 ∧ kp [(12, 36), (12, 49), (12, 50), (12, 51), (12, 52), (12, 53), (12, 54), (12, 55), (12, 56), (12, 58)] δ δ1 ∧ kr ad [102, 103, 118, 119, 126] δ δ1 ∧ sgk ad H δ δ1
theorem GQ.t {ad : List Nat} {g : gp} {δ0 : dp} {H : Nat} {δ δ1 δ2 : dp} (h : GQ ad g δ0 H δ δ1) (k : GQ ad g δ0 H δ1 δ2) : GQ ad g δ0 H δ δ2 := ⟨k.1, kp_w (by decide) (kp_t h.2.1 k.2.1), kr_w (by decide) (kr_t h.2.2.1 k.2.2.1), sgk_t h.2.2.2 k.2.2.2⟩
/-- a THIEF's steps, with how deep each was read -/
def stq (κ φ τ ρ : Nat → Int32) (t S : Nat) (dl : Nat → Nat) : Prop := ∀ i, i < S → dl i ≤ 3 ∧ ((κ (60 * t + i)).toInt = 5 → dl i ≤ 2 ∧ (φ (60 * t + i)).toInt ≤ 1000000 ∧ ∃ k : Nat, (τ (60 * t + i)).toInt = (k : Int) ∧ i < k ∧ k ≤ S ∧ ∀ j, i < j → j < k → dl i < dl j) ∧ ((κ (60 * t + i)).toInt ≠ 5 → 0 ≤ (κ (60 * t + i)).toInt ∧ (κ (60 * t + i)).toInt ≤ 4 ∧ ∃ f e : Nat, (φ (60 * t + i)).toInt = (f : Int) ∧ (τ (60 * t + i)).toInt = (e : Int) ∧ 500 * t ≤ f ∧ f ≤ e ∧ e ≤ 500 * t + 500 ∧ rn ρ (e - f) f 0 = some 1)
/-- what goes answers -/
def GA (ad : List Nat) (g : gp) (δ0 : dp) (a0 H n : Nat) (δ : dp) (r : Int32 × dp) : Prop := GQ ad g δ0 H δ r.2 ∧ bo r.1 ∧ (r.1.toInt ≠ 0 → (q_I r.2 12 58 a0).toInt = (n : Int))
set_option maxHeartbeats 4000000 in
theorem fl_goes_61 {ad : List Nat} {h : hp} (L : Lay TLx ad h) {δ0 : dp} {N : Nat} {a0 : Nat} (k_a0 : q_K h.1 a0 = 12) {κ φ τ ρ : Nat → Int32} {t S : Nat} {dl : Nat → Nat} (ht : t < 4) (hS : S ≤ 60) {T : Nat → Int32 → Int32 → Int32 → Int32 → dp → Option (Int32 × dp)} {n H i kk : Nat} (hn : n ≤ 2) {x1 x2 x3 x4 x5v x6v : Int32} {kt3 : Int32 → dp → Option (Int32 × dp)} {δb : dp} {Q : Int32 × dp → Prop} (e5 : x5v.toInt = (i : Int)) (e6 : x6v.toInt = 60 * (t : Int) + (i : Int)) (hi : i < S) (hφ : (φ (60 * t + i)).toInt ≤ 1000000) (hτ : (τ (60 * t + i)).toInt = (kk : Int)) (hkk : i < kk) (hkS : kk ≤ S)
    (hQ : ∀ r, GQ ad h.1 δ0 H δb r.2 → r.1 = 0 → Q r)
    (hT : ∀ (y z : Int32) (δ : dp), y.toInt = (i : Int) + 1 → z.toInt = (kk : Int) → RI ad h.1 δ0 δ → q_R δ (Ad ad 113) = κ → q_R δ (Ad ad 114) = φ → q_R δ (Ad ad 115) = τ → q_R δ (Ad ad 116) = ρ → (q_I δ 12 58 a0).toInt = (n : Int) + 1 → ok (T a0 x1 x2 y z δ) (GA ad h.1 δ0 a0 H (n + 1) δ))
    (hk : ∀ (y : Int32) (δ : dp), y.toInt = (kk : Int) → GQ ad h.1 δ0 H δb δ → q_R δ (Ad ad 113) = κ → q_R δ (Ad ad 114) = φ → q_R δ (Ad ad 115) = τ → q_R δ (Ad ad 116) = ρ → (q_I δ 12 58 a0).toInt = (n : Int) → ok (kt3 y δ) Q) :
    ∀ (m : Nat) (x7v : Int32) (δ : dp), 0 ≤ x7v.toInt → x7v.toInt ≤ 1000000 → GQ ad h.1 δ0 H δb δ → q_R δ (Ad ad 113) = κ → q_R δ (Ad ad 114) = φ → q_R δ (Ad ad 115) = τ → q_R δ (Ad ad 116) = ρ → (q_I δ 12 58 a0).toInt = (n : Int) + 1 → 1000000 - x7v.toInt < (m : Int) → ok (L_X12_goes_61 N h.1 T a0 x1 x2 x3 x4 kt3 m x5v x6v x7v δ) Q := by
  obtain ⟨b1, o1, _, n1, _⟩ := gO_12_30 L k_a0
  obtain rfl := gS_12_30 L k_a0 o1
  obtain ⟨b2, o2, _, n2, _⟩ := gO_12_31 L k_a0
  obtain rfl := gS_12_31 L k_a0 o2
  obtain ⟨b3, o3, _, n3, _⟩ := gO_12_57 L k_a0
  obtain rfl := gS_12_57 L k_a0 o3
  have t6 := ti_tn x6v
  have ix : x6v.toNatClampNeg = 60 * t + i := by omega
  have z0 : (0 : Int32).toInt = 0 := rfl
  intro m
  induction m with
  | zero => intro x7v δ _ _ _ _ _ _ _ _ hm; exfalso; omega
  | succ m ih =>
    intro x7v δ q0 q1 G r3 r4 r5 r6 hl hm
    unfold L_X12_goes_61
    refine ok_at o1 ?_
    refine ok_gd (fun z => ?_) ?_
    · rcases z with z | z
      · have := o_lt z; omega
      · rw [n1] at z; omega
    have l1 := te_subc (c := 1) (n := 1) rfl (q_I δ 12 58 a0) (by omega) (by omega)
    have l2 := ti_tn (q_I δ 12 58 a0 - 1)
    rw [ix, r4]
    refine ok_ite (fun c => ?_) (fun c => ?_)
    · refine ok_bdv (fun d ed => ?_)
      have Gd : GQ ad h.1 δ0 H δ d := by
        have b := ti_b (q_I δ 12 58 a0 - 1)
        refine ⟨by rw [ed]; exact RI.sI L G.1 b.1 b.2, kp_w (by decide) (kp_I kp_r ed), kr_w (by decide) (kr_N kr_r (show q_R d = q_R δ by rw [ed]; rfl)), by rw [ed]; exact sgk_r⟩
      refine ok_at o2 ?_
      refine ok_gd (fun z => ?_) ?_
      · rcases z with z | z
        · have := o_lt z; omega
        · rw [n2] at z; omega
      refine ok_biv (fun y ey => ?_)
      have e5' : q_R d (Ad ad 115) = τ := by rw [ed]; exact r5
      rw [e5'] at ey
      refine hk y d (by rw [ey]; exact hτ) (G.t Gd) (by rw [ed]; exact r3) (by rw [ed]; exact r4) e5' (by rw [ed]; exact r6) ?_
      rw [ed, rI_s]
      omega
    · have c1 := o_nle c
      refine ok_at o3 ?_
      refine ok_gd (fun z => ?_) ?_
      · rcases z with z | z
        · have := o_lt z; omega
        · rw [n3] at z; omega
      refine ok_bdv (fun d ed => ?_)
      have Gd : GQ ad h.1 δ0 H δ d := by
        refine ⟨by rw [ed]; exact RI.sR L G.1 ⟨126, by decide, by decide, by decide, rfl⟩, kp_w (by decide) (kp_N kp_r (show q_I d = q_I δ by rw [ed]; rfl)), kr_w (by decide) (kr_s L (by decide) kr_r ed), ?_⟩
        rw [ed]
        exact sgk_o (ad_ne L (by decide) (by decide) (by decide)) (ad_ne L (by decide) (by decide) (by decide))
      refine ok_at o2 ?_
      refine ok_gd (fun z => ?_) ?_
      · rcases z with z | z
        · have := o_lt z; omega
        · rw [n2] at z; omega
      have k3 : q_R d (Ad ad 113) = κ := (Gd.2.2.1 113 (by decide) (by decide) (by decide)).trans r3
      have k4 : q_R d (Ad ad 114) = φ := (Gd.2.2.1 114 (by decide) (by decide) (by decide)).trans r4
      have k5 : q_R d (Ad ad 115) = τ := (Gd.2.2.1 115 (by decide) (by decide) (by decide)).trans r5
      have k6 : q_R d (Ad ad 116) = ρ := (Gd.2.2.1 116 (by decide) (by decide) (by decide)).trans r6
      have kl : (q_I d 12 58 a0).toInt = (n : Int) + 1 := by rw [ed]; exact hl
      have y1 := te_addc (c := 1) (n := 1) rfl x5v (by omega) (by omega)
      refine ok_bind (hT (x5v + 1) (q_R d (Ad ad 115) (60 * t + i)) d (by omega) (by rw [k5]; exact hτ) Gd.1 k3 k4 k5 k6 kl) (fun r hr => ?_)
      obtain ⟨g1, g2, g3⟩ := hr
      refine ok_ite (fun c => ?_) (fun c => ?_)
      · exact ok_gp (by decide) (ok_some (hQ _ ((G.t Gd).t g1) rfl))
      · have c2 := o_ne c
        have lr := g3 (by omega)
        refine ok_biv (fun x ex => ?_)
        have hx := te_addc (c := 1) (n := 1) rfl x7v (by omega) (by omega)
        rw [← ex] at hx
        exact ih x r.2 (by omega) (by omega) ((G.t Gd).t g1) ((g1.2.2.1 113 (by decide) (by decide) (by decide)).trans k3) ((g1.2.2.1 114 (by decide) (by decide) (by decide)).trans k4) ((g1.2.2.1 115 (by decide) (by decide) (by decide)).trans k5) ((g1.2.2.1 116 (by decide) (by decide) (by decide)).trans k6) (by omega) (by omega)
set_option maxHeartbeats 4000000 in
theorem fe_goes {ad : List Nat} {h : hp} (L : Lay TLx ad h) {δ0 : dp} {N : Nat} (hN : 10000000 ≤ N) {a0 : Nat} (k_a0 : q_K h.1 a0 = 12) {κ φ τ ρ : Nat → Int32} {t S : Nat} {dl : Nat → Nat} (ht : t < 4) (hS : S ≤ 60) (st : stq κ φ τ ρ t S dl) {x1 x2 : Int32} (e1 : x1.toInt = (t : Int)) (h20 : 0 ≤ x2.toInt) (h21 : x2.toInt ≤ 3) :
    ∀ (k n : Nat) (x3 x4 : Int32) (s0 s1 : Nat) (δ : dp), n ≤ 3 → 4 ≤ n + k → x3.toInt = (s0 : Int) → x4.toInt = (s1 : Int) → s0 ≤ S → s1 ≤ S → (∀ j, s0 ≤ j → j < s1 → n ≤ dl j) → RI ad h.1 δ0 δ → q_R δ (Ad ad 113) = κ → q_R δ (Ad ad 114) = φ → q_R δ (Ad ad 115) = τ → q_R δ (Ad ad 116) = ρ → (q_I δ 12 58 a0).toInt = (n : Int) → ok (E_X12_goes N h.1 k a0 x1 x2 x3 x4 δ) (GA ad h.1 δ0 a0 x2.toNatClampNeg n δ) := by
  obtain ⟨b1, o1, _, n1, _⟩ := gO_12_29 L k_a0
  obtain rfl := gS_12_29 L k_a0 o1
  have z0 : (0 : Int32).toInt = 0 := rfl
  intro k
  induction k with
  | zero => intro n x3 x4 s0 s1 δ _ _ _ _ _ _ _ _ _ _ _ _ _; exfalso; omega
  | succ k ihk =>
    intro n x3 x4 s0 s1 δ hn hnk e3 e4 hs0 hs1 hlab I r3 r4 r5 r6 hl
    unfold E_X12_goes B_X12_goes
    have LP : ∀ (m : Nat) (x5v : Int32) (i : Nat) (d : dp), x5v.toInt = (i : Int) → s0 ≤ i → i ≤ S → GQ ad h.1 δ0 x2.toNatClampNeg δ d → q_R d (Ad ad 113) = κ → q_R d (Ad ad 114) = φ → q_R d (Ad ad 115) = τ → q_R d (Ad ad 116) = ρ → (q_I d 12 58 a0).toInt = (n : Int) → S - i < m → ok (L_X12_goes_3 N h.1 (E_X12_goes N h.1 k) a0 x1 x2 x3 x4 m x5v d) (GA ad h.1 δ0 a0 x2.toNatClampNeg n δ) := by
      intro m
      induction m with
      | zero => intro x5v i d _ _ _ _ _ _ _ _ _ hm; exfalso; omega
      | succ m ih =>
        intro x5v i d e5 hi0 hiS G k3 k4 k5 k6 kl hm
        unfold L_X12_goes_3
        refine ok_ite (fun c => ?_) (fun c => ?_)
        · exact ok_gp (by decide) (ok_some ⟨G, bo_1, fun _ => kl⟩)
        · have c1 := o_nle c
          refine ok_biv (fun x ex => ?_)
          have m1 := te_mulc (c := 60) (n := 60) rfl x1 (by omega) (by omega)
          have m2 := te_add ((60 : Int32) * x1) x5v (by omega) (by omega)
          rw [← ex] at m2
          have tx := ti_tn x
          have ix : x.toNatClampNeg = 60 * t + i := by omega
          refine ok_at o1 ?_
          refine ok_gd (fun z => ?_) ?_
          · rcases z with z | z
            · have := o_lt z; omega
            · rw [n1] at z; omega
          rw [ix, k3]
          have hdi := hlab i hi0 (by omega)
          obtain ⟨s3, sT, sC⟩ := st i (by omega)
          refine ok_ite (fun c => ?_) (fun c => ?_)
          · have c5 := o_eq c
            have c55 : (5 : Int32).toInt = 5 := rfl
            obtain ⟨d2, hφ, kk, hτ, hkk, hkS, hsub⟩ := sT (by omega)
            clear sT sC
            refine ok_bdv (fun d' ed => ?_)
            have l1 := te_addc (c := 1) (n := 1) rfl (q_I d 12 58 a0) (by omega) (by omega)
            have Gd : GQ ad h.1 δ0 x2.toNatClampNeg d d' := by
              have b := ti_b (q_I d 12 58 a0 + 1)
              refine ⟨by rw [ed]; exact RI.sI L G.1 b.1 b.2, kp_w (by decide) (kp_I kp_r ed), kr_w (by decide) (kr_N kr_r (show q_R d' = q_R d by rw [ed]; rfl)), by rw [ed]; exact sgk_r⟩
            refine fl_goes_61 L k_a0 (κ := κ) (φ := φ) (τ := τ) (ρ := ρ) (dl := dl) ht hS (n := n) (i := i) (kk := kk) (by omega) e5 (by omega) (by omega) hφ hτ hkk hkS (fun r g1 g2 => ⟨g1, Or.inl g2, fun z => absurd (by rw [g2]; rfl) z⟩) (fun y z dd ey ez Id j3 j4 j5 j6 jl => ?_) (fun y dd ey Gy j3 j4 j5 j6 jl => ?_) N 0 d' (by decide) (by decide) (G.t Gd) (by rw [ed]; exact k3) (by rw [ed]; exact k4) (by rw [ed]; exact k5) (by rw [ed]; exact k6) (by rw [ed, rI_s]; omega) (by omega)
            · exact ihk (n + 1) y z (i + 1) kk dd (by omega) (by omega) (by omega) ez (by omega) hkS (fun j j1 j2 => by have := hsub j (by omega) j2; omega) Id j3 j4 j5 j6 (by omega)
            · exact ih y kk dd ey (by omega) hkS Gy j3 j4 j5 j6 jl (by omega)
          · have c5 := o_ne c
            have c55 : (5 : Int32).toInt = 5 := rfl
            obtain ⟨kd0, kd4, f, e, hf, he, f0, f1, f2, hr⟩ := sC (by omega)
            clear sT sC
            have q4 : (q_R d (Ad ad 114) x.toNatClampNeg).toInt = (f : Int) := by rw [k4, ix]; exact hf
            have q5 : (q_R d (Ad ad 115) x.toNatClampNeg).toInt = (e : Int) := by rw [k5, ix]; exact he
            have q4' : (q_R d (Ad ad 114) x.toNatClampNeg).toInt.toNat = f := by omega
            have q5' : (q_R d (Ad ad 115) x.toNatClampNeg).toInt.toNat = e := by omega
            have hm2 : S - (i + 1) < m := by omega
            have hi2 : i + 1 ≤ S := by omega
            refine ok_bind (k_X12_steps L hN (x1 := x2) (x2 := x) k_a0 h20 h21 (by omega) (by omega) (by omega) (by omega) (by omega) (by omega) (by omega) (by omega) (by rw [q4', q5', k6]; exact hr) G.1) (fun r hq => ?_)
            obtain ⟨g1, ⟨g2, g3, g4, g5⟩, g6⟩ := hq
            have Gr : GQ ad h.1 δ0 x2.toNatClampNeg d r.2 := ⟨g1, kp_w (by decide) g2, kr_w (by decide) g4, g5⟩
            refine ok_ite (fun c => ?_) (fun c => ?_)
            · exact ok_gp (by decide) (ok_some ⟨G.t Gr, bo_0, fun z => absurd z0 z⟩)
            · refine ok_biv (fun y ey => ?_)
              have y1 := te_addc (c := 1) (n := 1) rfl x5v (by omega) (by omega)
              rw [← ey] at y1
              exact ih y (i + 1) r.2 (by rw [y1.1, e5]; rfl) (Nat.le_succ_of_le hi0) hi2 (G.t Gr) ((g4 113 (by decide) (by decide) (by decide)).trans k3) ((g4 114 (by decide) (by decide) (by decide)).trans k4) ((g4 115 (by decide) (by decide) (by decide)).trans k5) ((g4 116 (by decide) (by decide) (by decide)).trans k6) (by rw [g2 12 58 a0 (by decide)]; exact kl) hm2
    exact LP N x3 s0 δ e3 (Nat.le_refl _) hs0 ⟨I, fun _ _ _ _ => rfl, fun _ _ _ _ => rfl, sgk_r⟩ r3 r4 r5 r6 hl (by omega)
end
