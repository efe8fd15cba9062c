/-! the table read: the first call of each best row -/
set_option maxHeartbeats 4000000 in
theorem fl_207 {ad : List Nat} {h : hp} (L : Lay TLx ad h) {δ0 : dp} {N : Nat} (hN : 10000000 ≤ N) {a0 : Nat} (k_a0 : q_K h.1 a0 = 12) {δs : dp} (I : RI ad h.1 δ0 δs) {a : Nat} (ha : a = 4 ∨ a = 8 ∨ a = 16) (hA : ((1 : Int32) <<< (q_I δs 12 10 a0 &&& 31)).toInt = (a : Int)) {nn k : Nat} (hn : nn ≤ 6) (hk1 : k < nn) {x1 x3v x4v : Int32} {kt198 : Int32 → Int32 → dp → Option (dp)} {Q : dp → Prop} (e1 : x1.toInt = (nn : Int)) (e4 : x4v.toInt = (k : Int)) (s0 : 0 ≤ x3v.toInt) (s1 : x3v.toInt < ((2 ^ a : Nat) : Int)) (hp : pc 16 (un x3v) ≤ k) {qq : Int32} (qq0 : 0 ≤ qq.toInt) (qq1 : qq.toInt < 5 * (a : Int))
    (hk : ∀ δ' s x, x.toInt = x4v.toInt + 1 → 0 ≤ s.toInt → s.toInt < ((2 ^ a : Nat) : Int) → pc 16 (un s) ≤ k + 1 → FE ad h.1 δ0 δs δ' → fT (tvf N h.1 a0 δs) ((1 : Int32) <<< (q_I δs 12 10 a0 &&& 31)) a (q_R δ' (Ad ad 122)) nn nn → ok (kt198 s x δ') Q) :
    ∀ (n : Nat) (x5v : Int32) (δ : dp), FE ad h.1 δ0 δs δ → fT (tvf N h.1 a0 δs) ((1 : Int32) <<< (q_I δs 12 10 a0 &&& 31)) a (q_R δ (Ad ad 122)) nn nn → fV (tvf N h.1 a0 δs) ((1 : Int32) <<< (q_I δs 12 10 a0 &&& 31)) (q_R δ (Ad ad 122)) (nn - k) qq x3v = (q_R δ (Ad ad 122) (65536 * (nn - k) + x3v.toInt.toNat)).toInt → 0 ≤ x5v.toInt → x5v.toInt ≤ qq.toInt → qq.toInt - x5v.toInt < (n : Int) → ok (L_X12_findRow_207 N h.1 a0 x1 kt198 n x3v x4v x5v δ) Q := by
  obtain ⟨b1, o1, _, n1, _⟩ := gO_12_43 L k_a0
  obtain rfl := gS_12_43 L k_a0 o1
  obtain ⟨b2, o2, _, n2, _⟩ := gO_12_44 L k_a0
  obtain rfl := gS_12_44 L k_a0 o2
  have hp2 : 2 ^ a ≤ 65536 := by rcases ha with rfl | rfl | rfl <;> decide
  have ha16 : a ≤ 16 := by omega
  have hA0 : ¬ ((1 : Int32) <<< (q_I δs 12 10 a0 &&& 31)) = 0 := fun z => by
    have z1 := o_eq z
    have z0 : (0 : Int32).toInt = 0 := rfl
    omega
  have z0 : (0 : Int32).toInt = 0 := rfl
  have j0 := te_sub x1 x4v (by omega) (by omega)
  have j1 := te_subc (c := 1) (n := 1) rfl (x1 - x4v) (by omega) (by omega)
  have j2 := te_mulc (c := 65536) (n := 65536) rfl (x1 - x4v - 1) (by omega) (by omega)
  have j3 := te_mulc (c := 65536) (n := 65536) rfl (x1 - x4v) (by omega) (by omega)
  have j4 := te_add ((65536 : Int32) * (x1 - x4v)) x3v (by omega) (by omega)
  have j5 := ti_tn (((65536 : Int32) * (x1 - x4v)) + x3v)
  have t4 := ti_tn x4v
  intro n
  induction n with
  | zero => intro x5v δ F T e q0 q1 hm; exfalso; omega
  | succ n ih =>
    intro x5v δ F T e q0 q1 hm
    unfold L_X12_findRow_207
    refine ok_at (fe_all F) ?_
    dsimp only
    refine ok_gd hA0 ?_
    refine ok_at (fe_all F) ?_
    dsimp only
    refine ok_gd hA0 ?_
    refine ok_bind (fe_ts L hN (c := x5v / ((1 : Int32) <<< (q_I δs 12 10 a0 &&& 31))) (x := x5v - x5v / ((1 : Int32) <<< (q_I δs 12 10 a0 &&& 31)) * ((1 : Int32) <<< (q_I δs 12 10 a0 &&& 31))) (s := x3v) k_a0 (qc4 ha hA q0 (by omega)).1 (qc4 ha hA q0 (by omega)).2 I F) (fun r hr => ?_)
    obtain ⟨v1, v2, v3, F2, fr⟩ := hr
    refine ok_at o1 ?_
    refine ok_at (fe_all F2) ?_
    dsimp only
    refine ok_gd hA0 ?_
    refine ok_at (fe_all F2) ?_
    dsimp only
    refine ok_gd hA0 ?_
    refine ok_at behind_eq ?_
    dsimp only
    have hqx := qx ha hA q0 (by omega)
    have hb := bh_r (a := a) ha16 (x5v / ((1 : Int32) <<< (q_I δs 12 10 a0 &&& 31))) s0 s1 hqx.1 hqx.2
    have i2 := te_add ((65536 : Int32) * (x1 - x4v - 1)) (bh (x5v / ((1 : Int32) <<< (q_I δs 12 10 a0 &&& 31))) (x5v - x5v / ((1 : Int32) <<< (q_I δs 12 10 a0 &&& 31)) * ((1 : Int32) <<< (q_I δs 12 10 a0 &&& 31))) x3v) (by omega) (by omega)
    have i3 := ti_tn (((65536 : Int32) * (x1 - x4v - 1)) + (bh (x5v / ((1 : Int32) <<< (q_I δs 12 10 a0 &&& 31))) (x5v - x5v / ((1 : Int32) <<< (q_I δs 12 10 a0 &&& 31)) * ((1 : Int32) <<< (q_I δs 12 10 a0 &&& 31))) x3v))
    refine ok_gd (fun z => ?_) ?_
    · rcases z with z | z
      · have := o_lt z; omega
      · rw [n1] at z; omega
    refine ok_at o1 ?_
    refine ok_gd (fun z => ?_) ?_
    · rcases z with z | z
      · have := o_lt z; omega
      · rw [n1] at z; omega
    have T2 : fT (tvf N h.1 a0 δs) ((1 : Int32) <<< (q_I δs 12 10 a0 &&& 31)) a (q_R r.2 (Ad ad 122)) nn nn := by rw [fr]; exact T
    refine ok_ite (fun c => ?_) (fun c => ?_)
    · refine ok_at o2 ?_
      refine ok_gd (fun z => ?_) ?_
      · rcases z with z | z
        · have := o_lt z; omega
        · rw [n2] at z; omega
      refine ok_bdv (fun d ed => ?_)
      obtain ⟨F3, fr3⟩ := fe_w3 L F2 ed
      refine ok_at (fe_all F3) ?_
      dsimp only
      refine ok_gd hA0 ?_
      refine ok_at (fe_all F3) ?_
      dsimp only
      refine ok_gd hA0 ?_
      refine ok_at behind_eq ?_
      dsimp only
      refine ok_biv (fun x ex => ?_)
      have hx := te_addc (c := 1) (n := 1) rfl x4v (by omega) (by omega)
      rw [← ex] at hx
      exact hk d _ x (by omega) hb.1 hb.2.1 (by omega) F3 (by rw [fr3]; exact T2)
    · refine ok_biv (fun x ex => ?_)
      have hx := te_addc (c := 1) (n := 1) rfl x5v (by omega) (by omega)
      rw [← ex] at hx
      have hne : x5v.toInt ≠ qq.toInt := by
        intro z
        have hz : x5v = qq := i_eq z
        apply c
        rw [← hz] at e
        have hix : (((65536 : Int32) * (x1 - x4v - 1)) + (bh (x5v / ((1 : Int32) <<< (q_I δs 12 10 a0 &&& 31))) (x5v - x5v / ((1 : Int32) <<< (q_I δs 12 10 a0 &&& 31)) * ((1 : Int32) <<< (q_I δs 12 10 a0 &&& 31))) x3v)).toNatClampNeg = 65536 * (nn - k - 1) + (bh (x5v / ((1 : Int32) <<< (q_I δs 12 10 a0 &&& 31))) (x5v - x5v / ((1 : Int32) <<< (q_I δs 12 10 a0 &&& 31)) * ((1 : Int32) <<< (q_I δs 12 10 a0 &&& 31))) x3v).toInt.toNat := by omega
        have hix2 : (((65536 : Int32) * (x1 - x4v)) + x3v).toNatClampNeg = 65536 * (nn - k) + x3v.toInt.toNat := by omega
        rw [hix, hix2, fr]
        have hv := fV_b ha hA (l := nn - k) (n := nn) (by omega) (fun l' hl' => T l' (by omega)) s0 s1 (by omega) q0 (by omega)
        apply i_eq
        have hy := te_add r.1 (q_R δ (Ad ad 122) (65536 * (nn - k - 1) + (bh (x5v / ((1 : Int32) <<< (q_I δs 12 10 a0 &&& 31))) (x5v - x5v / ((1 : Int32) <<< (q_I δs 12 10 a0 &&& 31)) * ((1 : Int32) <<< (q_I δs 12 10 a0 &&& 31))) x3v).toInt.toNat)) (by omega) (by omega)
        rw [hy.1, ← e]
        unfold fV
        rw [v1]
      refine ih x r.2 F2 T2 (by rw [fr]; exact e) (by omega) (by omega) (by omega)
set_option maxHeartbeats 4000000 in
theorem fl_198 {ad : List Nat} {h : hp} (L : Lay TLx ad h) {δ0 : dp} {N : Nat} (hN : 10000000 ≤ N) {a0 : Nat} (k_a0 : q_K h.1 a0 = 12) {δs : dp} (I : RI ad h.1 δ0 δs) {a : Nat} (ha : a = 4 ∨ a = 8 ∨ a = 16) (hA : ((1 : Int32) <<< (q_I δs 12 10 a0 &&& 31)).toInt = (a : Int)) {nn : Nat} (hn : nn ≤ 6) {x1 : Int32} (e1 : x1.toInt = (nn : Int)) :
    ∀ (n : Nat) (k : Nat) (x3v x4v : Int32) (δ : dp), x4v.toInt = (k : Int) → k ≤ nn → 0 ≤ x3v.toInt → x3v.toInt < ((2 ^ a : Nat) : Int) → pc 16 (un x3v) ≤ k → FE ad h.1 δ0 δs δ → fT (tvf N h.1 a0 δs) ((1 : Int32) <<< (q_I δs 12 10 a0 &&& 31)) a (q_R δ (Ad ad 122)) nn nn → nn - k < n → ok (L_X12_findRow_198 N h.1 a0 x1 n x3v x4v δ) (fun r => FE ad h.1 δ0 δs r) := by
  intro n
  induction n with
  | zero => intro k x3v x4v δ _ _ _ _ _ _ _ hm; exfalso; omega
  | succ n ih =>
    intro k x3v x4v δ e4 hk s0 s1 hp F T hm
    unfold L_X12_findRow_198
    refine ok_ite (fun c => ok_some F) (fun c => ?_)
    have c1 := o_nle c
    have z0 : (0 : Int32).toInt = 0 := rfl
    have ha16 : a ≤ 16 := by omega
    obtain ⟨_, _, g3⟩ := T (nn - k) (by omega) x3v s0 s1 (by omega)
    obtain ⟨qq, qq0, qq1, qe⟩ := g3 (by omega)
    exact fl_207 L hN k_a0 I ha hA hn (k := k) (by omega) e1 e4 s0 s1 hp qq0 qq1 (fun δ' s x hx t0 t1 tp F' T' => ih (k + 1) s x δ' (by omega) (by omega) t0 t1 tp F' T' (by omega)) N 0 δ F T qe (by decide) (by omega) (by omega)
set_option maxHeartbeats 4000000 in
theorem fl_37 {ad : List Nat} {h : hp} (L : Lay TLx ad h) {δ0 : dp} {N : Nat} (hN : 10000000 ≤ N) {a0 : Nat} (k_a0 : q_K h.1 a0 = 12) {δs : dp} (I : RI ad h.1 δ0 δs) {a : Nat} (ha : a = 4 ∨ a = 8 ∨ a = 16) (hA : ((1 : Int32) <<< (q_I δs 12 10 a0 &&& 31)).toInt = (a : Int)) {nn l : Nat} (hn : nn ≤ 6) (hl : 1 ≤ l) (hln : l ≤ nn) {x1 x2v x3v : Int32} {kt29 : Int32 → Int32 → dp → Option (dp)} {Q : dp → Prop} (e1 : x1.toInt = (nn : Int)) (e2 : x2v.toInt = ((2 ^ a : Nat) : Int)) (e3 : x3v.toInt = (l : Int))
    (hk : ∀ δ' x, x.toInt = x3v.toInt + 1 → FE ad h.1 δ0 δs δ' → fT (tvf N h.1 a0 δs) ((1 : Int32) <<< (q_I δs 12 10 a0 &&& 31)) a (q_R δ' (Ad ad 122)) nn l → ok (kt29 x2v x δ') Q) :
    ∀ (n : Nat) (x4v : Int32) (δ : dp), 0 ≤ x4v.toInt → x4v.toInt ≤ ((2 ^ a : Nat) : Int) → FE ad h.1 δ0 δs δ → fT (tvf N h.1 a0 δs) ((1 : Int32) <<< (q_I δs 12 10 a0 &&& 31)) a (q_R δ (Ad ad 122)) nn (l - 1) → (∀ s : Int32, 0 ≤ s.toInt → s.toInt < x4v.toInt → pc 16 (un s) + l ≤ nn → fG (tvf N h.1 a0 δs) ((1 : Int32) <<< (q_I δs 12 10 a0 &&& 31)) a (q_R δ (Ad ad 122)) l s) → ((2 ^ a : Nat) : Int) - x4v.toInt < (n : Int) → ok (L_X12_findRow_37 N h.1 a0 x1 kt29 n x2v x3v x4v δ) Q := by
  have hp2 : 2 ^ a ≤ 65536 := by rcases ha with rfl | rfl | rfl <;> decide
  have z0 : (0 : Int32).toInt = 0 := rfl
  intro n
  induction n with
  | zero => intro x4v δ s0 s1 F T P hm; exfalso; omega
  | succ n ih =>
    intro x4v δ s0 s1 F T P hm
    unfold L_X12_findRow_37
    refine ok_ite (fun c => ?_) (fun c => ?_)
    · have c1 := o_le c
      refine ok_biv (fun x ex => ?_)
      have hx := te_addc (c := 1) (n := 1) rfl x3v (by omega) (by omega)
      rw [← ex] at hx
      refine hk δ x (by omega) F (fun l' hl' s t0 t1 tp => ?_)
      by_cases c2 : l' ≤ l - 1
      · exact T l' c2 s t0 t1 tp
      · obtain rfl : l' = l := by omega
        exact P s t0 (by omega) tp
    · have c1 := o_nle c
      refine ok_bind (f_ones hN (x0 := x4v) s0 (by omega)) (fun r hr => ?_)
      obtain ⟨r1, r2⟩ := hr
      rw [r1]
      have j0 := te_sub x1 x3v (by omega) (by omega)
      have hx := te_addc (c := 1) (n := 1) rfl x4v (by omega) (by omega)
      refine ok_ite (fun c => ?_) (fun c => ?_)
      · have c2 := o_le c
        refine fl_63 L hN k_a0 I ha hA hn hl hln e3 s0 (by omega) (by omega) (fun δ' x hx F' T' P' => ?_) N 0 0 δ F T P (by decide) (by omega) (by decide) (by omega) (Or.inl ⟨rfl, rfl⟩) (by omega)
        exact ih x δ' (by omega) (by omega) F' T' (fun s t0 t1 tp => P' s t0 (by omega) tp) (by omega)
      · have c2 := o_nle c
        unfold J_X12_findRow_167
        refine ok_biv (fun x ex => ?_)
        rw [← ex] at hx
        refine ih x δ (by omega) (by omega) F T (fun s t0 t1 tp => ?_) (by omega)
        by_cases cs : s.toInt = x4v.toInt
        · have : s = x4v := i_eq cs
          subst this
          exfalso; omega
        · exact P s t0 (by omega) tp
set_option maxHeartbeats 4000000 in
theorem fl_29 {ad : List Nat} {h : hp} (L : Lay TLx ad h) {δ0 : dp} {N : Nat} (hN : 10000000 ≤ N) {a0 : Nat} (k_a0 : q_K h.1 a0 = 12) {δs : dp} (I : RI ad h.1 δ0 δs) {a : Nat} (ha : a = 4 ∨ a = 8 ∨ a = 16) (hA : ((1 : Int32) <<< (q_I δs 12 10 a0 &&& 31)).toInt = (a : Int)) {nn : Nat} (hn : nn ≤ 6) {x1 x2v : Int32} (e1 : x1.toInt = (nn : Int)) (e2 : x2v.toInt = ((2 ^ a : Nat) : Int)) :
    ∀ (n : Nat) (l : Nat) (x3v : Int32) (δ : dp), x3v.toInt = (l : Int) → 1 ≤ l → l ≤ nn + 1 → FE ad h.1 δ0 δs δ → fT (tvf N h.1 a0 δs) ((1 : Int32) <<< (q_I δs 12 10 a0 &&& 31)) a (q_R δ (Ad ad 122)) nn (l - 1) → nn + 1 - l < n → ok (L_X12_findRow_29 N h.1 a0 x1 n x2v x3v δ) (fun r => FE ad h.1 δ0 δs r) := by
  have hp2 : 2 ^ a ≤ 65536 := by rcases ha with rfl | rfl | rfl <;> decide
  have hp0 : 0 < 2 ^ a := Nat.two_pow_pos a
  have z0 : (0 : Int32).toInt = 0 := rfl
  obtain ⟨b1, o1, _, n1, _⟩ := gO_12_43 L k_a0
  obtain rfl := gS_12_43 L k_a0 o1
  intro n
  induction n with
  | zero => intro l x3v δ _ _ _ _ _ hm; exfalso; omega
  | succ n ih =>
    intro l x3v δ e3 l1 l2 F T hm
    unfold L_X12_findRow_29
    refine ok_ite (fun c => ?_) (fun c => ?_)
    · have c1 := o_lt c
      refine ok_at o1 ?_
      have i1 := te_mulc (c := 65536) (n := 65536) rfl x1 (by omega) (by omega)
      have i3 := ti_tn ((65536 : Int32) * x1)
      refine ok_gd (fun z => ?_) ?_
      · rcases z with z | z
        · have := o_lt z; omega
        · rw [n1] at z; omega
      refine ok_bdv (fun d ed => ?_)
      obtain ⟨F3, fr3⟩ := fe_w5 L F ed
      rw [show l - 1 = nn by omega] at T
      exact fl_198 L hN k_a0 I ha hA hn e1 N 0 0 0 d rfl (by omega) (by decide) (by omega) (by rw [show un 0 = 0 from rfl, pc_0]; omega) F3 (by rw [fr3]; exact T) (by omega)
    · have c1 := o_nlt c
      refine fl_37 L hN k_a0 I ha hA hn l1 (by omega) e1 e2 e3 (fun δ' x hx F' T' => ih (l + 1) x δ' (by omega) (by omega) (by omega) F' T' (by omega)) N 0 δ (by decide) (by omega) F T (fun s t0 t1 tp => by exfalso; omega) (by omega)
set_option maxHeartbeats 4000000 in
theorem fl_9 {ad : List Nat} {h : hp} (L : Lay TLx ad h) {δ0 : dp} {N : Nat} (hN : 10000000 ≤ N) {a0 : Nat} (k_a0 : q_K h.1 a0 = 12) {δs : dp} (I : RI ad h.1 δ0 δs) {a : Nat} (ha : a = 4 ∨ a = 8 ∨ a = 16) (hA : ((1 : Int32) <<< (q_I δs 12 10 a0 &&& 31)).toInt = (a : Int)) {nn : Nat} (hn : nn ≤ 6) {x1 x2v : Int32} (e1 : x1.toInt = (nn : Int)) (e2 : x2v.toInt = ((2 ^ a : Nat) : Int)) :
    ∀ (n : Nat) (x3v : Int32) (δ : dp), 0 ≤ x3v.toInt → x3v.toInt ≤ ((2 ^ a : Nat) : Int) → FE ad h.1 δ0 δs δ → (∀ i : Nat, (i : Int) < x3v.toInt → (q_R δ (Ad ad 122) i).toInt = 0) → ((2 ^ a : Nat) : Int) - x3v.toInt < (n : Int) → ok (L_X12_findRow_9 N h.1 a0 x1 n x2v x3v δ) (fun r => FE ad h.1 δ0 δs r) := by
  have hp2 : 2 ^ a ≤ 65536 := by rcases ha with rfl | rfl | rfl <;> decide
  have z0 : (0 : Int32).toInt = 0 := rfl
  obtain ⟨b1, o1, _, n1, _⟩ := gO_12_43 L k_a0
  obtain rfl := gS_12_43 L k_a0 o1
  intro n
  induction n with
  | zero => intro x3v δ _ _ _ _ hm; exfalso; omega
  | succ n ih =>
    intro x3v δ s0 s1 F P hm
    unfold L_X12_findRow_9
    refine ok_ite (fun c => ?_) (fun c => ?_)
    · have c1 := o_le c
      refine fl_29 L hN k_a0 I ha hA hn e1 e2 N 1 1 δ rfl (by omega) (by omega) F (fun l' hl' s t0 t1 tp => ?_) (by omega)
      obtain rfl : l' = 0 := by omega
      have := P (65536 * 0 + s.toInt.toNat) (by omega)
      exact ⟨by omega, by omega, fun z => by omega⟩
    · have c1 := o_nle c
      refine ok_at o1 ?_
      have i3 := ti_tn x3v
      refine ok_gd (fun z => ?_) ?_
      · rcases z with z | z
        · have := o_lt z; omega
        · rw [n1] at z; omega
      refine ok_bdv (fun d ed => ?_)
      refine ok_biv (fun x ex => ?_)
      have hx := te_addc (c := 1) (n := 1) rfl x3v (by omega) (by omega)
      rw [← ex] at hx
      refine ih x d (by omega) (by omega) (fe_w2 L F ed) (fun i hi => ?_) (by omega)
      rw [ed, qR_sR]
      by_cases c : i = x3v.toNatClampNeg
      · rw [if_pos ⟨rfl, c⟩]; rfl
      · rw [if_neg (fun z => c z.2)]
        exact P i (by omega)
theorem k_X12_findRow {ad : List Nat} {h : hp} (L : Lay TLx ad h) {δ0 : dp} {N : Nat} (hN : 10000000 ≤ N) {a0 : Nat} {x1 : Int32} (k_a0 : q_K h.1 a0 = 12) {δ : dp} (z0 : (q_I δ 12 10 a0).toInt ≤ 4) (z1 : 1 ≤ (x1).toInt) (z2 : (x1).toInt ≤ 6) (I : RI ad h.1 δ0 δ) : ok (D_X12_findRow N h.1 a0 x1 δ) (fun r => RI ad h.1 δ0 r ∧ (kp [(12, 36), (12, 45)] δ r ∧ q_V r = q_V δ ∧ kr ad [119, 122, 123] δ r)) := by
  have F : FE ad h.1 δ0 δ δ := ⟨I, fun _ _ _ _ => rfl, rfl, fun _ _ _ _ => rfl⟩
  have b := cb_12_10 I k_a0
  have e0 : (0 : Int32).toInt = 0 := rfl
  have H : ∃ a : Nat, (a = 4 ∨ a = 8 ∨ a = 16) ∧ ((1 : Int32) <<< (q_I δ 12 10 a0 &&& 31)).toInt = (a : Int) ∧ ((1 : Int32) <<< (((1 : Int32) <<< (q_I δ 12 10 a0 &&& 31)) &&& 31)).toInt = ((2 ^ a : Nat) : Int) := by
    rcases (show (q_I δ 12 10 a0).toInt = 2 ∨ (q_I δ 12 10 a0).toInt = 3 ∨ (q_I δ 12 10 a0).toInt = 4 by omega) with e | e | e
    · rw [show q_I δ 12 10 a0 = 2 from i_eq e]; exact ⟨4, by omega, by decide, by decide⟩
    · rw [show q_I δ 12 10 a0 = 3 from i_eq e]; exact ⟨8, by omega, by decide, by decide⟩
    · rw [show q_I δ 12 10 a0 = 4 from i_eq e]; exact ⟨16, by omega, by decide, by decide⟩
  obtain ⟨a, ha, hA, hS⟩ := H
  unfold D_X12_findRow
  refine ok_at (fe_all F) ?_
  dsimp only
  refine ok_biv (fun x ex => ?_)
  have hp2 : 2 ^ a ≤ 65536 := by rcases ha with rfl | rfl | rfl <;> decide
  have hp0 : 0 < 2 ^ a := Nat.two_pow_pos a
  exact fl_9 L hN k_a0 I ha hA (nn := x1.toInt.toNat) (by omega) (by omega) (by rw [ex]; exact hS) N 0 δ (by decide) (by omega) F (fun i hi => by omega) (by omega)
