/-! the helpers (by gen_safe.py) -/
set_option maxHeartbeats 4000000 in
theorem k_L_shape {ad : List Nat} {h : hp} (L : Lay TLx ad h) {δ0 : dp} {N : Nat} (hN : 10000000 ≤ N) {a0 : Nat} {x1 : Int32} {a2 : Nat} (k_a0 : q_K h.1 a0 = 11) (n_o : q_N h.1 a2 = 1) {δ : dp} (I : CI ad h.1 δ0 δ) : ok (D_L_shape N h.1 a0 x1 a2 δ) (fun r => CI ad h.1 δ0 r.2 ∧ (0 ≤ x1.toInt ∧ x1.toInt ≤ (q_I δ 7 1 (Ad ad 1)).toInt ∧ (q_I r.2 7 1 (Ad ad 1)).toInt = 0 ∨ (x1.toInt < 0 ∨ (q_I δ 7 1 (Ad ad 1)).toInt < x1.toInt) ∧ (q_I r.2 7 1 (Ad ad 1)).toInt = (q_I δ 7 1 (Ad ad 1)).toInt)) := by
  unfold D_L_shape
  refine ok_bind (k_X11_shape L hN (x1 := x1) k_a0 I) (fun r H => ?_)
  have K := H.2.1.1
  rcases r with ⟨v | n, d⟩
  · dsimp only
    exact ok_gd (by omega) (ok_some ⟨H.1, Or.inl ⟨H.2.2.2.1, H.2.2.2.2, H.2.2.1⟩⟩)
  · have q : n = 2 := H.2.2.1
    dsimp only
    subst q
    exact ok_eq rfl ⟨H.1, Or.inr ⟨H.2.2.2.2, congrArg Int32.toInt (H.2.2.2.1 _)⟩⟩
set_option maxHeartbeats 4000000 in
theorem k_L_thief {ad : List Nat} {h : hp} (L : Lay TLx ad h) {δ0 : dp} {N : Nat} (hN : 10000000 ≤ N) {a0 : Nat} {x1 : Int32} {a2 : Nat} (k_a0 : q_K h.1 a0 = 11) (n_o : q_N h.1 a2 = 1) {δ : dp} (I : CI ad h.1 δ0 δ) : ok (D_L_thief N h.1 a0 x1 a2 δ) (fun r => CI ad h.1 δ0 r.2 ∧ (0 ≤ x1.toInt ∧ x1.toInt ≤ (q_I δ 7 1 (Ad ad 1)).toInt ∧ (q_I r.2 7 1 (Ad ad 1)).toInt = 0 ∨ (x1.toInt < 0 ∨ (q_I δ 7 1 (Ad ad 1)).toInt < x1.toInt) ∧ (q_I r.2 7 1 (Ad ad 1)).toInt = (q_I δ 7 1 (Ad ad 1)).toInt) ∧ ∀ a, q_I r.2 5 0 a = q_I δ 5 0 a ∧ q_I r.2 5 1 a = q_I δ 5 1 a ∧ q_I r.2 5 2 a = q_I δ 5 2 a ∧ q_I r.2 11 12 a = q_I δ 11 12 a) := by
  unfold D_L_thief
  refine ok_bind (k_X11_thief L hN (x1 := x1) k_a0 I) (fun r H => ?_)
  have K := H.2.1
  rcases r with ⟨v | n, d⟩
  · dsimp only
    exact ok_gd (by omega) (ok_some ⟨H.1, Or.inl ⟨H.2.2.2.1, H.2.2.2.2, H.2.2.1⟩, fun a => ⟨K 5 0 a (by decide), K 5 1 a (by decide), K 5 2 a (by decide), K 11 12 a (by decide)⟩⟩)
  · have q : n = 2 := H.2.2.1
    dsimp only
    subst q
    exact ok_eq rfl ⟨H.1, Or.inr ⟨H.2.2.2.2, congrArg Int32.toInt (H.2.2.2.1 _)⟩, fun a => ⟨K 5 0 a (by decide), K 5 1 a (by decide), K 5 2 a (by decide), K 11 12 a (by decide)⟩⟩
set_option maxHeartbeats 4000000 in
theorem k_L_told {ad : List Nat} {h : hp} (L : Lay TLx ad h) {δ0 : dp} {N : Nat} (hN : 10000000 ≤ N) {a0 : Nat} {x1 : Int32} {a2 : Nat} (k_a0 : q_K h.1 a0 = 11) (n_o : q_N h.1 a2 = 1) {δ : dp} (I : CI ad h.1 δ0 δ) : ok (D_L_told N h.1 a0 x1 a2 δ) (fun r => CI ad h.1 δ0 r.2 ∧ (q_I r.2 7 1 (Ad ad 1)).toInt = (q_I δ 7 1 (Ad ad 1)).toInt ∧ ∀ a, q_I r.2 5 0 a = q_I δ 5 0 a ∧ q_I r.2 5 1 a = q_I δ 5 1 a ∧ q_I r.2 5 2 a = q_I δ 5 2 a ∧ q_I r.2 11 12 a = q_I δ 11 12 a) := by
  unfold D_L_told
  refine ok_bind (k_X11_told L hN (x1 := x1) k_a0 I) (fun r H => ?_)
  have K := H.2.1.1
  rcases r with ⟨v | n, d⟩
  · dsimp only
    exact ok_gd (by omega) (ok_some ⟨H.1, congrArg Int32.toInt (K 7 1 _ (by decide)), fun a => ⟨K 5 0 a (by decide), K 5 1 a (by decide), K 5 2 a (by decide), K 11 12 a (by decide)⟩⟩)
  · have q : n = 2 := H.2.2.1
    dsimp only
    subst q
    exact ok_eq rfl ⟨H.1, congrArg Int32.toInt (K 7 1 _ (by decide)), fun a => ⟨K 5 0 a (by decide), K 5 1 a (by decide), K 5 2 a (by decide), K 11 12 a (by decide)⟩⟩
set_option maxHeartbeats 4000000 in
theorem k_L_put {ad : List Nat} {h : hp} (L : Lay TLx ad h) {δ0 : dp} {N : Nat} (hN : 10000000 ≤ N) {a0 : Nat} {x1 : Int32} {x2 : Int32} {a3 : Nat} (k_a0 : q_K h.1 a0 = 11) (n_o : q_N h.1 a3 = 1) {δ : dp} (I : CI ad h.1 δ0 δ) : ok (D_L_put N h.1 a0 x1 x2 a3 δ) (fun r => CI ad h.1 δ0 r.2 ∧ (q_I r.2 7 1 (Ad ad 1)).toInt = (q_I δ 7 1 (Ad ad 1)).toInt ∧ ∀ a, q_I r.2 5 0 a = q_I δ 5 0 a ∧ q_I r.2 5 1 a = q_I δ 5 1 a ∧ q_I r.2 5 2 a = q_I δ 5 2 a ∧ q_I r.2 11 12 a = q_I δ 11 12 a) := by
  unfold D_L_put
  refine ok_bind (k_X11_put L hN (x1 := x1) (x2 := x2) k_a0 I) (fun r H => ?_)
  have K := H.2.1.1
  rcases r with ⟨v | n, d⟩
  · dsimp only
    exact ok_gd (by omega) (ok_some ⟨H.1, congrArg Int32.toInt (K 7 1 _ (by decide)), fun a => ⟨K 5 0 a (by decide), K 5 1 a (by decide), K 5 2 a (by decide), K 11 12 a (by decide)⟩⟩)
  · have q : n = 0 ∨ n = 2 := H.2.2.1
    dsimp only
    rcases q with rfl | rfl
    · exact ok_eq rfl ⟨H.1, congrArg Int32.toInt (K 7 1 _ (by decide)), fun a => ⟨K 5 0 a (by decide), K 5 1 a (by decide), K 5 2 a (by decide), K 11 12 a (by decide)⟩⟩
    · exact ok_eq rfl ⟨H.1, congrArg Int32.toInt (K 7 1 _ (by decide)), fun a => ⟨K 5 0 a (by decide), K 5 1 a (by decide), K 5 2 a (by decide), K 11 12 a (by decide)⟩⟩
set_option maxHeartbeats 4000000 in
theorem k_L_drop {ad : List Nat} {h : hp} (L : Lay TLx ad h) {δ0 : dp} {N : Nat} (hN : 10000000 ≤ N) {a0 : Nat} {x1 : Int32} {x2 : Int32} {a3 : Nat} (k_a0 : q_K h.1 a0 = 11) (n_o : q_N h.1 a3 = 1) {δ : dp} (I : CI ad h.1 δ0 δ) : ok (D_L_drop N h.1 a0 x1 x2 a3 δ) (fun r => CI ad h.1 δ0 r.2 ∧ (q_I r.2 7 1 (Ad ad 1)).toInt = (q_I δ 7 1 (Ad ad 1)).toInt ∧ ∀ a, q_I r.2 5 0 a = q_I δ 5 0 a ∧ q_I r.2 5 1 a = q_I δ 5 1 a ∧ q_I r.2 5 2 a = q_I δ 5 2 a ∧ q_I r.2 11 12 a = q_I δ 11 12 a) := by
  unfold D_L_drop
  refine ok_bind (k_X11_drop L hN (x1 := x1) (x2 := x2) k_a0 I) (fun r H => ?_)
  have K := H.2.1.1
  rcases r with ⟨v | n, d⟩
  · dsimp only
    exact ok_gd (by omega) (ok_some ⟨H.1, congrArg Int32.toInt (K 7 1 _ (by decide)), fun a => ⟨K 5 0 a (by decide), K 5 1 a (by decide), K 5 2 a (by decide), K 11 12 a (by decide)⟩⟩)
  · have q : n = 0 ∨ n = 2 := H.2.2.1
    dsimp only
    rcases q with rfl | rfl
    · exact ok_eq rfl ⟨H.1, congrArg Int32.toInt (K 7 1 _ (by decide)), fun a => ⟨K 5 0 a (by decide), K 5 1 a (by decide), K 5 2 a (by decide), K 11 12 a (by decide)⟩⟩
    · exact ok_eq rfl ⟨H.1, congrArg Int32.toInt (K 7 1 _ (by decide)), fun a => ⟨K 5 0 a (by decide), K 5 1 a (by decide), K 5 2 a (by decide), K 11 12 a (by decide)⟩⟩
set_option maxHeartbeats 4000000 in
theorem k_L_has {ad : List Nat} {h : hp} (L : Lay TLx ad h) {δ0 : dp} {N : Nat} (hN : 10000000 ≤ N) {a0 : Nat} {x1 : Int32} {x2 : Int32} {a3 : Nat} (k_a0 : q_K h.1 a0 = 11) (n_o : q_N h.1 a3 = 1) {δ : dp} (I : CI ad h.1 δ0 δ) : ok (D_L_has N h.1 a0 x1 x2 a3 δ) (fun r => CI ad h.1 δ0 r.2 ∧ (q_I r.2 7 1 (Ad ad 1)).toInt = (q_I δ 7 1 (Ad ad 1)).toInt ∧ ∀ a, q_I r.2 5 0 a = q_I δ 5 0 a ∧ q_I r.2 5 1 a = q_I δ 5 1 a ∧ q_I r.2 5 2 a = q_I δ 5 2 a ∧ q_I r.2 11 12 a = q_I δ 11 12 a) := by
  unfold D_L_has
  refine ok_bind (k_X11_has L hN (x1 := x1) (x2 := x2) k_a0 I) (fun r H => ?_)
  have K := H.2.1.1
  rcases r with ⟨v | n, d⟩
  · dsimp only
    exact ok_gd (by omega) (ok_some ⟨H.1, congrArg Int32.toInt (K 7 1 _ (by decide)), fun a => ⟨K 5 0 a (by decide), K 5 1 a (by decide), K 5 2 a (by decide), K 11 12 a (by decide)⟩⟩)
  · have q : n = 0 ∨ n = 2 := H.2.2.1
    dsimp only
    rcases q with rfl | rfl
    · exact ok_eq rfl ⟨H.1, congrArg Int32.toInt (K 7 1 _ (by decide)), fun a => ⟨K 5 0 a (by decide), K 5 1 a (by decide), K 5 2 a (by decide), K 11 12 a (by decide)⟩⟩
    · exact ok_eq rfl ⟨H.1, congrArg Int32.toInt (K 7 1 _ (by decide)), fun a => ⟨K 5 0 a (by decide), K 5 1 a (by decide), K 5 2 a (by decide), K 11 12 a (by decide)⟩⟩
set_option maxHeartbeats 4000000 in
theorem k_L_of {ad : List Nat} {h : hp} (L : Lay TLx ad h) {δ0 : dp} {N : Nat} (hN : 10000000 ≤ N) {a0 : Nat} {x1 : Int32} {x2 : Int32} {a3 : Nat} (k_a0 : q_K h.1 a0 = 11) (n_o : q_N h.1 a3 = 1) {δ : dp} (I : CI ad h.1 δ0 δ) : ok (D_L_of N h.1 a0 x1 x2 a3 δ) (fun r => CI ad h.1 δ0 r.2 ∧ (q_I r.2 7 1 (Ad ad 1)).toInt = (q_I δ 7 1 (Ad ad 1)).toInt ∧ ∀ a, q_I r.2 5 0 a = q_I δ 5 0 a ∧ q_I r.2 5 1 a = q_I δ 5 1 a ∧ q_I r.2 5 2 a = q_I δ 5 2 a ∧ q_I r.2 11 12 a = q_I δ 11 12 a) := by
  unfold D_L_of
  refine ok_bind (k_X11_of L hN (x1 := x1) (x2 := x2) k_a0 I) (fun r H => ?_)
  have K := H.2.1.1
  rcases r with ⟨v | n, d⟩
  · dsimp only
    exact ok_gd (by omega) (ok_some ⟨H.1, congrArg Int32.toInt (K 7 1 _ (by decide)), fun a => ⟨K 5 0 a (by decide), K 5 1 a (by decide), K 5 2 a (by decide), K 11 12 a (by decide)⟩⟩)
  · have q : n = 0 ∨ n = 2 := H.2.2.1
    dsimp only
    rcases q with rfl | rfl
    · exact ok_eq rfl ⟨H.1, congrArg Int32.toInt (K 7 1 _ (by decide)), fun a => ⟨K 5 0 a (by decide), K 5 1 a (by decide), K 5 2 a (by decide), K 11 12 a (by decide)⟩⟩
    · exact ok_eq rfl ⟨H.1, congrArg Int32.toInt (K 7 1 _ (by decide)), fun a => ⟨K 5 0 a (by decide), K 5 1 a (by decide), K 5 2 a (by decide), K 11 12 a (by decide)⟩⟩
set_option maxHeartbeats 4000000 in
theorem k_L_next {ad : List Nat} {h : hp} (L : Lay TLx ad h) {δ0 : dp} {N : Nat} (hN : 10000000 ≤ N) {a0 : Nat} {x1 : Int32} {x2 : Int32} {a3 : Nat} (k_a0 : q_K h.1 a0 = 11) (n_o : q_N h.1 a3 = 1) {δ : dp} (I : CI ad h.1 δ0 δ) : ok (D_L_next N h.1 a0 x1 x2 a3 δ) (fun r => CI ad h.1 δ0 r.2 ∧ (q_I r.2 7 1 (Ad ad 1)).toInt = (q_I δ 7 1 (Ad ad 1)).toInt ∧ ∀ a, q_I r.2 5 0 a = q_I δ 5 0 a ∧ q_I r.2 5 1 a = q_I δ 5 1 a ∧ q_I r.2 5 2 a = q_I δ 5 2 a ∧ q_I r.2 11 12 a = q_I δ 11 12 a) := by
  unfold D_L_next
  refine ok_bind (k_X11_next L hN (x1 := x1) (x2 := x2) k_a0 I) (fun r H => ?_)
  have K := H.2.1.1
  rcases r with ⟨v | n, d⟩
  · dsimp only
    exact ok_gd (by omega) (ok_some ⟨H.1, congrArg Int32.toInt (K 7 1 _ (by decide)), fun a => ⟨K 5 0 a (by decide), K 5 1 a (by decide), K 5 2 a (by decide), K 11 12 a (by decide)⟩⟩)
  · have q : n = 0 ∨ n = 2 := H.2.2.1
    dsimp only
    rcases q with rfl | rfl
    · exact ok_eq rfl ⟨H.1, congrArg Int32.toInt (K 7 1 _ (by decide)), fun a => ⟨K 5 0 a (by decide), K 5 1 a (by decide), K 5 2 a (by decide), K 11 12 a (by decide)⟩⟩
    · exact ok_eq rfl ⟨H.1, congrArg Int32.toInt (K 7 1 _ (by decide)), fun a => ⟨K 5 0 a (by decide), K 5 1 a (by decide), K 5 2 a (by decide), K 11 12 a (by decide)⟩⟩
set_option maxHeartbeats 4000000 in
theorem k_L_before {ad : List Nat} {h : hp} (L : Lay TLx ad h) {δ0 : dp} {N : Nat} (hN : 10000000 ≤ N) {a0 : Nat} {x1 : Int32} {x2 : Int32} {a3 : Nat} (k_a0 : q_K h.1 a0 = 11) (n_o : q_N h.1 a3 = 1) {δ : dp} (I : CI ad h.1 δ0 δ) : ok (D_L_before N h.1 a0 x1 x2 a3 δ) (fun r => CI ad h.1 δ0 r.2 ∧ (q_I r.2 7 1 (Ad ad 1)).toInt = (q_I δ 7 1 (Ad ad 1)).toInt ∧ ∀ a, q_I r.2 5 0 a = q_I δ 5 0 a ∧ q_I r.2 5 1 a = q_I δ 5 1 a ∧ q_I r.2 5 2 a = q_I δ 5 2 a ∧ q_I r.2 11 12 a = q_I δ 11 12 a) := by
  unfold D_L_before
  refine ok_bind (k_X11_before L hN (x1 := x1) (x2 := x2) k_a0 I) (fun r H => ?_)
  have K := H.2.1.1
  rcases r with ⟨v | n, d⟩
  · dsimp only
    exact ok_gd (by omega) (ok_some ⟨H.1, congrArg Int32.toInt (K 7 1 _ (by decide)), fun a => ⟨K 5 0 a (by decide), K 5 1 a (by decide), K 5 2 a (by decide), K 11 12 a (by decide)⟩⟩)
  · have q : n = 0 ∨ n = 2 := H.2.2.1
    dsimp only
    rcases q with rfl | rfl
    · exact ok_eq rfl ⟨H.1, congrArg Int32.toInt (K 7 1 _ (by decide)), fun a => ⟨K 5 0 a (by decide), K 5 1 a (by decide), K 5 2 a (by decide), K 11 12 a (by decide)⟩⟩
    · exact ok_eq rfl ⟨H.1, congrArg Int32.toInt (K 7 1 _ (by decide)), fun a => ⟨K 5 0 a (by decide), K 5 1 a (by decide), K 5 2 a (by decide), K 11 12 a (by decide)⟩⟩
set_option maxHeartbeats 4000000 in
theorem k_L_kth {ad : List Nat} {h : hp} (L : Lay TLx ad h) {δ0 : dp} {N : Nat} (hN : 10000000 ≤ N) {a0 : Nat} {x1 : Int32} {x2 : Int32} {a3 : Nat} (k_a0 : q_K h.1 a0 = 11) (n_o : q_N h.1 a3 = 1) {δ : dp} (I : CI ad h.1 δ0 δ) : ok (D_L_kth N h.1 a0 x1 x2 a3 δ) (fun r => CI ad h.1 δ0 r.2 ∧ (q_I r.2 7 1 (Ad ad 1)).toInt = (q_I δ 7 1 (Ad ad 1)).toInt ∧ ∀ a, q_I r.2 5 0 a = q_I δ 5 0 a ∧ q_I r.2 5 1 a = q_I δ 5 1 a ∧ q_I r.2 5 2 a = q_I δ 5 2 a ∧ q_I r.2 11 12 a = q_I δ 11 12 a) := by
  unfold D_L_kth
  refine ok_bind (k_X11_kth L hN (x1 := x1) (x2 := x2) k_a0 I) (fun r H => ?_)
  have K := H.2.1.1
  rcases r with ⟨v | n, d⟩
  · dsimp only
    exact ok_gd (by omega) (ok_some ⟨H.1, congrArg Int32.toInt (K 7 1 _ (by decide)), fun a => ⟨K 5 0 a (by decide), K 5 1 a (by decide), K 5 2 a (by decide), K 11 12 a (by decide)⟩⟩)
  · have q : n = 0 := H.2.2.1
    dsimp only
    subst q
    exact ok_eq rfl ⟨H.1, congrArg Int32.toInt (K 7 1 _ (by decide)), fun a => ⟨K 5 0 a (by decide), K 5 1 a (by decide), K 5 2 a (by decide), K 11 12 a (by decide)⟩⟩
set_option maxHeartbeats 4000000 in
theorem k_L_between {ad : List Nat} {h : hp} (L : Lay TLx ad h) {δ0 : dp} {N : Nat} (hN : 10000000 ≤ N) {a0 : Nat} {x1 : Int32} {x2 : Int32} {x3 : Int32} {a4 : Nat} (k_a0 : q_K h.1 a0 = 11) (n_o : q_N h.1 a4 = 1) {δ : dp} (I : CI ad h.1 δ0 δ) : ok (D_L_between N h.1 a0 x1 x2 x3 a4 δ) (fun r => CI ad h.1 δ0 r.2 ∧ (q_I r.2 7 1 (Ad ad 1)).toInt = (q_I δ 7 1 (Ad ad 1)).toInt ∧ ∀ a, q_I r.2 5 0 a = q_I δ 5 0 a ∧ q_I r.2 5 1 a = q_I δ 5 1 a ∧ q_I r.2 5 2 a = q_I δ 5 2 a ∧ q_I r.2 11 12 a = q_I δ 11 12 a) := by
  unfold D_L_between
  refine ok_bind (k_X11_between L hN (x1 := x1) (x2 := x2) (x3 := x3) k_a0 I) (fun r H => ?_)
  have K := H.2.1.1
  rcases r with ⟨v | n, d⟩
  · dsimp only
    exact ok_gd (by omega) (ok_some ⟨H.1, congrArg Int32.toInt (K 7 1 _ (by decide)), fun a => ⟨K 5 0 a (by decide), K 5 1 a (by decide), K 5 2 a (by decide), K 11 12 a (by decide)⟩⟩)
  · have q : n = 0 ∨ n = 2 := H.2.2.1
    dsimp only
    rcases q with rfl | rfl
    · exact ok_eq rfl ⟨H.1, congrArg Int32.toInt (K 7 1 _ (by decide)), fun a => ⟨K 5 0 a (by decide), K 5 1 a (by decide), K 5 2 a (by decide), K 11 12 a (by decide)⟩⟩
    · exact ok_eq rfl ⟨H.1, congrArg Int32.toInt (K 7 1 _ (by decide)), fun a => ⟨K 5 0 a (by decide), K 5 1 a (by decide), K 5 2 a (by decide), K 11 12 a (by decide)⟩⟩
set_option maxHeartbeats 4000000 in
theorem k_L_touches {ad : List Nat} {h : hp} (L : Lay TLx ad h) {δ0 : dp} {N : Nat} (hN : 10000000 ≤ N) {a0 : Nat} {x1 : Int32} {x2 : Int32} {x3 : Int32} {x4 : Int32} {a5 : Nat} (k_a0 : q_K h.1 a0 = 11) (n_o : q_N h.1 a5 = 1) {δ : dp} (I : CI ad h.1 δ0 δ) : ok (D_L_touches N h.1 a0 x1 x2 x3 x4 a5 δ) (fun r => CI ad h.1 δ0 r.2 ∧ (q_I r.2 7 1 (Ad ad 1)).toInt = (q_I δ 7 1 (Ad ad 1)).toInt ∧ ∀ a, q_I r.2 5 0 a = q_I δ 5 0 a ∧ q_I r.2 5 1 a = q_I δ 5 1 a ∧ q_I r.2 5 2 a = q_I δ 5 2 a ∧ q_I r.2 11 12 a = q_I δ 11 12 a) := by
  unfold D_L_touches
  refine ok_bind (k_X11_touches L hN (x1 := x1) (x2 := x2) (x3 := x3) (x4 := x4) k_a0 I) (fun r H => ?_)
  have K := H.2.1.1
  rcases r with ⟨v | n, d⟩
  · dsimp only
    exact ok_gd (by omega) (ok_some ⟨H.1, congrArg Int32.toInt (K 7 1 _ (by decide)), fun a => ⟨K 5 0 a (by decide), K 5 1 a (by decide), K 5 2 a (by decide), K 11 12 a (by decide)⟩⟩)
  · have q : n = 0 ∨ n = 2 := H.2.2.1
    dsimp only
    rcases q with rfl | rfl
    · exact ok_eq rfl ⟨H.1, congrArg Int32.toInt (K 7 1 _ (by decide)), fun a => ⟨K 5 0 a (by decide), K 5 1 a (by decide), K 5 2 a (by decide), K 11 12 a (by decide)⟩⟩
    · exact ok_eq rfl ⟨H.1, congrArg Int32.toInt (K 7 1 _ (by decide)), fun a => ⟨K 5 0 a (by decide), K 5 1 a (by decide), K 5 2 a (by decide), K 11 12 a (by decide)⟩⟩
set_option maxHeartbeats 4000000 in
theorem k_L_size {ad : List Nat} {h : hp} (L : Lay TLx ad h) {δ0 : dp} {N : Nat} (hN : 10000000 ≤ N) {a0 : Nat} {x1 : Int32} {x2 : Int32} {a3 : Nat} (k_a0 : q_K h.1 a0 = 11) (n_o : q_N h.1 a3 = 1) {δ : dp} (I : CI ad h.1 δ0 δ) : ok (D_L_size N h.1 a0 x1 x2 a3 δ) (fun r => CI ad h.1 δ0 r.2 ∧ (q_I r.2 7 1 (Ad ad 1)).toInt = (q_I δ 7 1 (Ad ad 1)).toInt ∧ ∀ a, q_I r.2 5 0 a = q_I δ 5 0 a ∧ q_I r.2 5 1 a = q_I δ 5 1 a ∧ q_I r.2 5 2 a = q_I δ 5 2 a ∧ q_I r.2 11 12 a = q_I δ 11 12 a) := by
  unfold D_L_size
  refine ok_bind (k_X11_size L hN (x1 := x1) (x2 := x2) k_a0 I) (fun r H => ?_)
  have K := H.2.1.1
  rcases r with ⟨v | n, d⟩
  · dsimp only
    exact ok_gd (by omega) (ok_some ⟨H.1, congrArg Int32.toInt (K 7 1 _ (by decide)), fun a => ⟨K 5 0 a (by decide), K 5 1 a (by decide), K 5 2 a (by decide), K 11 12 a (by decide)⟩⟩)
  · have q : n = 0 ∨ n = 2 := H.2.2.1
    dsimp only
    rcases q with rfl | rfl
    · exact ok_eq rfl ⟨H.1, congrArg Int32.toInt (K 7 1 _ (by decide)), fun a => ⟨K 5 0 a (by decide), K 5 1 a (by decide), K 5 2 a (by decide), K 11 12 a (by decide)⟩⟩
    · exact ok_eq rfl ⟨H.1, congrArg Int32.toInt (K 7 1 _ (by decide)), fun a => ⟨K 5 0 a (by decide), K 5 1 a (by decide), K 5 2 a (by decide), K 11 12 a (by decide)⟩⟩
set_option maxHeartbeats 4000000 in
theorem k_L_bound {ad : List Nat} {h : hp} (L : Lay TLx ad h) {δ0 : dp} {N : Nat} (hN : 10000000 ≤ N) {a0 : Nat} {x1 : Int32} {a2 : Nat} (k_a0 : q_K h.1 a0 = 11) (n_o : q_N h.1 a2 = 1) {δ : dp} (I : CI ad h.1 δ0 δ) : ok (D_L_bound N h.1 a0 x1 a2 δ) (fun r => CI ad h.1 δ0 r.2 ∧ (q_I r.2 7 1 (Ad ad 1)).toInt = (q_I δ 7 1 (Ad ad 1)).toInt ∧ ∀ a, q_I r.2 5 0 a = q_I δ 5 0 a ∧ q_I r.2 5 1 a = q_I δ 5 1 a ∧ q_I r.2 5 2 a = q_I δ 5 2 a ∧ q_I r.2 11 12 a = q_I δ 11 12 a) := by
  unfold D_L_bound
  refine ok_bind (k_X11_bound L hN (x1 := x1) k_a0 I) (fun r H => ?_)
  have K := H.2.1.1
  rcases r with ⟨v | n, d⟩
  · dsimp only
    exact ok_gd (by omega) (ok_some ⟨H.1, congrArg Int32.toInt (K 7 1 _ (by decide)), fun a => ⟨K 5 0 a (by decide), K 5 1 a (by decide), K 5 2 a (by decide), K 11 12 a (by decide)⟩⟩)
  · have q : n = 2 := H.2.2.1
    dsimp only
    subst q
    exact ok_eq rfl ⟨H.1, congrArg Int32.toInt (K 7 1 _ (by decide)), fun a => ⟨K 5 0 a (by decide), K 5 1 a (by decide), K 5 2 a (by decide), K 11 12 a (by decide)⟩⟩
set_option maxHeartbeats 4000000 in
theorem k_L_worst {ad : List Nat} {h : hp} (L : Lay TLx ad h) {δ0 : dp} {N : Nat} (hN : 10000000 ≤ N) {a0 : Nat} {x1 : Int32} {x2 : Int32} {x3 : Int32} {a4 : Nat} (k_a0 : q_K h.1 a0 = 11) (n_o : q_N h.1 a4 = 1) {δ : dp} (I : CI ad h.1 δ0 δ) : ok (D_L_worst N h.1 a0 x1 x2 x3 a4 δ) (fun r => CI ad h.1 δ0 r.2 ∧ (q_I r.2 7 1 (Ad ad 1)).toInt = (q_I δ 7 1 (Ad ad 1)).toInt ∧ ∀ a, q_I r.2 5 0 a = q_I δ 5 0 a ∧ q_I r.2 5 1 a = q_I δ 5 1 a ∧ q_I r.2 5 2 a = q_I δ 5 2 a ∧ q_I r.2 11 12 a = q_I δ 11 12 a) := by
  unfold D_L_worst
  refine ok_bind (k_X11_worst L hN (x1 := x1) (x2 := x2) (x3 := x3) k_a0 I) (fun r H => ?_)
  have K := H.2.1.1
  rcases r with ⟨v | n, d⟩
  · dsimp only
    exact ok_gd (by omega) (ok_some ⟨H.1, congrArg Int32.toInt (K 7 1 _ (by decide)), fun a => ⟨K 5 0 a (by decide), K 5 1 a (by decide), K 5 2 a (by decide), K 11 12 a (by decide)⟩⟩)
  · have q : n = 2 := H.2.2.1
    dsimp only
    subst q
    exact ok_eq rfl ⟨H.1, congrArg Int32.toInt (K 7 1 _ (by decide)), fun a => ⟨K 5 0 a (by decide), K 5 1 a (by decide), K 5 2 a (by decide), K 11 12 a (by decide)⟩⟩
set_option maxHeartbeats 4000000 in
theorem k_L_bad {ad : List Nat} {h : hp} (L : Lay TLx ad h) {δ0 : dp} {N : Nat} (hN : 10000000 ≤ N) {a0 : Nat} {x1 : Int32} {x2 : Int32} {x3 : Int32} {a4 : Nat} (k_a0 : q_K h.1 a0 = 11) (n_o : q_N h.1 a4 = 1) {δ : dp} (I : CI ad h.1 δ0 δ) : ok (D_L_bad N h.1 a0 x1 x2 x3 a4 δ) (fun r => CI ad h.1 δ0 r.2 ∧ (q_I r.2 7 1 (Ad ad 1)).toInt = (q_I δ 7 1 (Ad ad 1)).toInt ∧ ∀ a, q_I r.2 5 0 a = q_I δ 5 0 a ∧ q_I r.2 5 1 a = q_I δ 5 1 a ∧ q_I r.2 5 2 a = q_I δ 5 2 a ∧ q_I r.2 11 12 a = q_I δ 11 12 a) := by
  unfold D_L_bad
  refine ok_bind (k_X11_bad L hN (x1 := x1) (x2 := x2) (x3 := x3) k_a0 I) (fun r H => ?_)
  have K := H.2.1.1
  rcases r with ⟨v | n, d⟩
  · dsimp only
    exact ok_gd (by omega) (ok_some ⟨H.1, congrArg Int32.toInt (K 7 1 _ (by decide)), fun a => ⟨K 5 0 a (by decide), K 5 1 a (by decide), K 5 2 a (by decide), K 11 12 a (by decide)⟩⟩)
  · have q : n = 2 := H.2.2.1
    dsimp only
    subst q
    exact ok_eq rfl ⟨H.1, congrArg Int32.toInt (K 7 1 _ (by decide)), fun a => ⟨K 5 0 a (by decide), K 5 1 a (by decide), K 5 2 a (by decide), K 11 12 a (by decide)⟩⟩
set_option maxHeartbeats 4000000 in
theorem k_L_was {ad : List Nat} {h : hp} (L : Lay TLx ad h) {δ0 : dp} {N : Nat} (hN : 10000000 ≤ N) {a0 : Nat} {x1 : Int32} {x2 : Int32} {x3 : Int32} {a4 : Nat} (k_a0 : q_K h.1 a0 = 11) (n_o : q_N h.1 a4 = 1) {δ : dp} (I : CI ad h.1 δ0 δ) : ok (D_L_was N h.1 a0 x1 x2 x3 a4 δ) (fun r => CI ad h.1 δ0 r.2 ∧ (q_I r.2 7 1 (Ad ad 1)).toInt = (q_I δ 7 1 (Ad ad 1)).toInt ∧ ∀ a, q_I r.2 5 0 a = q_I δ 5 0 a ∧ q_I r.2 5 1 a = q_I δ 5 1 a ∧ q_I r.2 5 2 a = q_I δ 5 2 a ∧ q_I r.2 11 12 a = q_I δ 11 12 a) := by
  unfold D_L_was
  refine ok_bind (k_X11_was L hN (x1 := x1) (x2 := x2) (x3 := x3) k_a0 I) (fun r H => ?_)
  have K := H.2.1.1
  rcases r with ⟨v | n, d⟩
  · dsimp only
    exact ok_gd (by omega) (ok_some ⟨H.1, congrArg Int32.toInt (K 7 1 _ (by decide)), fun a => ⟨K 5 0 a (by decide), K 5 1 a (by decide), K 5 2 a (by decide), K 11 12 a (by decide)⟩⟩)
  · have q : n = 0 ∨ n = 2 := H.2.2.1
    dsimp only
    rcases q with rfl | rfl
    · exact ok_eq rfl ⟨H.1, congrArg Int32.toInt (K 7 1 _ (by decide)), fun a => ⟨K 5 0 a (by decide), K 5 1 a (by decide), K 5 2 a (by decide), K 11 12 a (by decide)⟩⟩
    · exact ok_eq rfl ⟨H.1, congrArg Int32.toInt (K 7 1 _ (by decide)), fun a => ⟨K 5 0 a (by decide), K 5 1 a (by decide), K 5 2 a (by decide), K 11 12 a (by decide)⟩⟩
set_option maxHeartbeats 4000000 in
theorem k_L_asked {ad : List Nat} {h : hp} (L : Lay TLx ad h) {δ0 : dp} {N : Nat} (hN : 10000000 ≤ N) {a0 : Nat} {x1 : Int32} {x2 : Int32} {x3 : Int32} {x4 : Int32} {a5 : Nat} (k_a0 : q_K h.1 a0 = 11) (n_o : q_N h.1 a5 = 1) {δ : dp} (I : CI ad h.1 δ0 δ) : ok (D_L_asked N h.1 a0 x1 x2 x3 x4 a5 δ) (fun r => CI ad h.1 δ0 r.2 ∧ (q_I r.2 7 1 (Ad ad 1)).toInt = (q_I δ 7 1 (Ad ad 1)).toInt ∧ ∀ a, q_I r.2 5 0 a = q_I δ 5 0 a ∧ q_I r.2 5 1 a = q_I δ 5 1 a ∧ q_I r.2 5 2 a = q_I δ 5 2 a ∧ q_I r.2 11 12 a = q_I δ 11 12 a) := by
  unfold D_L_asked
  refine ok_bind (k_X11_asked L hN (x1 := x1) (x2 := x2) (x3 := x3) (x4 := x4) k_a0 I) (fun r H => ?_)
  have K := H.2.1.1
  rcases r with ⟨v | n, d⟩
  · dsimp only
    exact ok_gd (by omega) (ok_some ⟨H.1, congrArg Int32.toInt (K 7 1 _ (by decide)), fun a => ⟨K 5 0 a (by decide), K 5 1 a (by decide), K 5 2 a (by decide), K 11 12 a (by decide)⟩⟩)
  · have q : n = 0 ∨ n = 2 := H.2.2.1
    dsimp only
    rcases q with rfl | rfl
    · exact ok_eq rfl ⟨H.1, congrArg Int32.toInt (K 7 1 _ (by decide)), fun a => ⟨K 5 0 a (by decide), K 5 1 a (by decide), K 5 2 a (by decide), K 11 12 a (by decide)⟩⟩
    · exact ok_eq rfl ⟨H.1, congrArg Int32.toInt (K 7 1 _ (by decide)), fun a => ⟨K 5 0 a (by decide), K 5 1 a (by decide), K 5 2 a (by decide), K 11 12 a (by decide)⟩⟩
set_option maxHeartbeats 4000000 in
theorem k_L_since {ad : List Nat} {h : hp} (L : Lay TLx ad h) {δ0 : dp} {N : Nat} (hN : 10000000 ≤ N) {a0 : Nat} {x1 : Int32} {x2 : Int32} {x3 : Int32} {a4 : Nat} (k_a0 : q_K h.1 a0 = 11) (n_o : q_N h.1 a4 = 1) {δ : dp} (I : CI ad h.1 δ0 δ) : ok (D_L_since N h.1 a0 x1 x2 x3 a4 δ) (fun r => CI ad h.1 δ0 r.2 ∧ (q_I r.2 7 1 (Ad ad 1)).toInt = (q_I δ 7 1 (Ad ad 1)).toInt ∧ ∀ a, q_I r.2 5 0 a = q_I δ 5 0 a ∧ q_I r.2 5 1 a = q_I δ 5 1 a ∧ q_I r.2 5 2 a = q_I δ 5 2 a ∧ q_I r.2 11 12 a = q_I δ 11 12 a) := by
  unfold D_L_since
  refine ok_bind (k_X11_since L hN (x1 := x1) (x2 := x2) (x3 := x3) k_a0 I) (fun r H => ?_)
  have K := H.2.1.1
  rcases r with ⟨v | n, d⟩
  · dsimp only
    exact ok_gd (by omega) (ok_some ⟨H.1, congrArg Int32.toInt (K 7 1 _ (by decide)), fun a => ⟨K 5 0 a (by decide), K 5 1 a (by decide), K 5 2 a (by decide), K 11 12 a (by decide)⟩⟩)
  · have q : n = 0 ∨ n = 2 := H.2.2.1
    dsimp only
    rcases q with rfl | rfl
    · exact ok_eq rfl ⟨H.1, congrArg Int32.toInt (K 7 1 _ (by decide)), fun a => ⟨K 5 0 a (by decide), K 5 1 a (by decide), K 5 2 a (by decide), K 11 12 a (by decide)⟩⟩
    · exact ok_eq rfl ⟨H.1, congrArg Int32.toInt (K 7 1 _ (by decide)), fun a => ⟨K 5 0 a (by decide), K 5 1 a (by decide), K 5 2 a (by decide), K 11 12 a (by decide)⟩⟩
set_option maxHeartbeats 4000000 in
theorem k_L_room {ad : List Nat} {h : hp} (L : Lay TLx ad h) {δ0 : dp} {N : Nat} (hN : 10000000 ≤ N) {a0 : Nat} {x1 : Int32} {x2 : Int32} {a3 : Nat} (k_a0 : q_K h.1 a0 = 11) (n_o : q_N h.1 a3 = 1) {δ : dp} (I : CI ad h.1 δ0 δ) : ok (D_L_room N h.1 a0 x1 x2 a3 δ) (fun r => CI ad h.1 δ0 r.2 ∧ (q_I r.2 7 1 (Ad ad 1)).toInt = (q_I δ 7 1 (Ad ad 1)).toInt ∧ ∀ a, q_I r.2 5 0 a = q_I δ 5 0 a ∧ q_I r.2 5 1 a = q_I δ 5 1 a ∧ q_I r.2 5 2 a = q_I δ 5 2 a ∧ q_I r.2 11 12 a = q_I δ 11 12 a) := by
  unfold D_L_room
  refine ok_bind (k_X11_room L hN (x1 := x1) (x2 := x2) k_a0 I) (fun r H => ?_)
  have K := H.2.1.1
  rcases r with ⟨v | n, d⟩
  · dsimp only
    exact ok_gd (by omega) (ok_some ⟨H.1, congrArg Int32.toInt (K 7 1 _ (by decide)), fun a => ⟨K 5 0 a (by decide), K 5 1 a (by decide), K 5 2 a (by decide), K 11 12 a (by decide)⟩⟩)
  · have q : n = 0 ∨ n = 2 := H.2.2.1
    dsimp only
    rcases q with rfl | rfl
    · exact ok_eq rfl ⟨H.1, congrArg Int32.toInt (K 7 1 _ (by decide)), fun a => ⟨K 5 0 a (by decide), K 5 1 a (by decide), K 5 2 a (by decide), K 11 12 a (by decide)⟩⟩
    · exact ok_eq rfl ⟨H.1, congrArg Int32.toInt (K 7 1 _ (by decide)), fun a => ⟨K 5 0 a (by decide), K 5 1 a (by decide), K 5 2 a (by decide), K 11 12 a (by decide)⟩⟩
set_option maxHeartbeats 4000000 in
theorem k_L_joins {ad : List Nat} {h : hp} (L : Lay TLx ad h) {δ0 : dp} {N : Nat} (hN : 10000000 ≤ N) {a0 : Nat} {x1 : Int32} {x2 : Int32} {x3 : Int32} {a4 : Nat} (k_a0 : q_K h.1 a0 = 11) (n_o : q_N h.1 a4 = 1) {δ : dp} (I : CI ad h.1 δ0 δ) : ok (D_L_joins N h.1 a0 x1 x2 x3 a4 δ) (fun r => CI ad h.1 δ0 r.2 ∧ (q_I r.2 7 1 (Ad ad 1)).toInt = (q_I δ 7 1 (Ad ad 1)).toInt ∧ ∀ a, q_I r.2 5 0 a = q_I δ 5 0 a ∧ q_I r.2 5 1 a = q_I δ 5 1 a ∧ q_I r.2 5 2 a = q_I δ 5 2 a ∧ q_I r.2 11 12 a = q_I δ 11 12 a) := by
  unfold D_L_joins
  refine ok_bind (k_X11_joins L hN (x1 := x1) (x2 := x2) (x3 := x3) k_a0 I) (fun r H => ?_)
  have K := H.2.1.1
  rcases r with ⟨v | n, d⟩
  · dsimp only
    exact ok_gd (by omega) (ok_some ⟨H.1, congrArg Int32.toInt (K 7 1 _ (by decide)), fun a => ⟨K 5 0 a (by decide), K 5 1 a (by decide), K 5 2 a (by decide), K 11 12 a (by decide)⟩⟩)
  · have q : n = 0 ∨ n = 2 := H.2.2.1
    dsimp only
    rcases q with rfl | rfl
    · exact ok_eq rfl ⟨H.1, congrArg Int32.toInt (K 7 1 _ (by decide)), fun a => ⟨K 5 0 a (by decide), K 5 1 a (by decide), K 5 2 a (by decide), K 11 12 a (by decide)⟩⟩
    · exact ok_eq rfl ⟨H.1, congrArg Int32.toInt (K 7 1 _ (by decide)), fun a => ⟨K 5 0 a (by decide), K 5 1 a (by decide), K 5 2 a (by decide), K 11 12 a (by decide)⟩⟩
set_option maxHeartbeats 4000000 in
theorem k_L_runs {ad : List Nat} {h : hp} (L : Lay TLx ad h) {δ0 : dp} {N : Nat} (hN : 10000000 ≤ N) {a0 : Nat} {x1 : Int32} {x2 : Int32} {a3 : Nat} (k_a0 : q_K h.1 a0 = 11) (n_o : q_N h.1 a3 = 1) {δ : dp} (I : CI ad h.1 δ0 δ) : ok (D_L_runs N h.1 a0 x1 x2 a3 δ) (fun r => CI ad h.1 δ0 r.2 ∧ (q_I r.2 7 1 (Ad ad 1)).toInt = (q_I δ 7 1 (Ad ad 1)).toInt ∧ ∀ a, q_I r.2 5 0 a = q_I δ 5 0 a ∧ q_I r.2 5 1 a = q_I δ 5 1 a ∧ q_I r.2 5 2 a = q_I δ 5 2 a ∧ q_I r.2 11 12 a = q_I δ 11 12 a) := by
  unfold D_L_runs
  refine ok_bind (k_X11_runs L hN (x1 := x1) (x2 := x2) k_a0 I) (fun r H => ?_)
  have K := H.2.1.1
  rcases r with ⟨v | n, d⟩
  · dsimp only
    exact ok_gd (by omega) (ok_some ⟨H.1, congrArg Int32.toInt (K 7 1 _ (by decide)), fun a => ⟨K 5 0 a (by decide), K 5 1 a (by decide), K 5 2 a (by decide), K 11 12 a (by decide)⟩⟩)
  · have q : n = 0 := H.2.2.1
    dsimp only
    subst q
    exact ok_eq rfl ⟨H.1, congrArg Int32.toInt (K 7 1 _ (by decide)), fun a => ⟨K 5 0 a (by decide), K 5 1 a (by decide), K 5 2 a (by decide), K 11 12 a (by decide)⟩⟩
set_option maxHeartbeats 4000000 in
theorem k_L_steals {ad : List Nat} {h : hp} (L : Lay TLx ad h) {δ0 : dp} {N : Nat} (hN : 10000000 ≤ N) {a0 : Nat} {x1 : Int32} {x2 : Int32} {x3 : Int32} {x4 : Int32} {a5 : Nat} (k_a0 : q_K h.1 a0 = 11) (n_o : q_N h.1 a5 = 1) {δ : dp} (I : CI ad h.1 δ0 δ) : ok (D_L_steals N h.1 a0 x1 x2 x3 x4 a5 δ) (fun r => CI ad h.1 δ0 r.2 ∧ (q_I r.2 7 1 (Ad ad 1)).toInt = (q_I δ 7 1 (Ad ad 1)).toInt ∧ ∀ a, q_I r.2 5 0 a = q_I δ 5 0 a ∧ q_I r.2 5 1 a = q_I δ 5 1 a ∧ q_I r.2 5 2 a = q_I δ 5 2 a ∧ q_I r.2 11 12 a = q_I δ 11 12 a) := by
  unfold D_L_steals
  refine ok_bind (k_X11_steals L hN (x1 := x1) (x2 := x2) (x3 := x3) (x4 := x4) k_a0 I) (fun r H => ?_)
  have K := H.2.1
  rcases r with ⟨v | n, d⟩
  · dsimp only
    exact ok_gd (by omega) (ok_some ⟨H.1, congrArg Int32.toInt (K 7 1 _ (by decide)), fun a => ⟨K 5 0 a (by decide), K 5 1 a (by decide), K 5 2 a (by decide), K 11 12 a (by decide)⟩⟩)
  · have q : n = 0 ∨ n = 1 ∨ n = 2 := H.2.2.1
    dsimp only
    rcases q with rfl | rfl | rfl
    · exact ok_eq rfl ⟨H.1, congrArg Int32.toInt (K 7 1 _ (by decide)), fun a => ⟨K 5 0 a (by decide), K 5 1 a (by decide), K 5 2 a (by decide), K 11 12 a (by decide)⟩⟩
    · exact ok_eq rfl ⟨H.1, congrArg Int32.toInt (K 7 1 _ (by decide)), fun a => ⟨K 5 0 a (by decide), K 5 1 a (by decide), K 5 2 a (by decide), K 11 12 a (by decide)⟩⟩
    · exact ok_eq rfl ⟨H.1, congrArg Int32.toInt (K 7 1 _ (by decide)), fun a => ⟨K 5 0 a (by decide), K 5 1 a (by decide), K 5 2 a (by decide), K 11 12 a (by decide)⟩⟩
set_option maxHeartbeats 4000000 in
theorem k_L_reached {ad : List Nat} {h : hp} (L : Lay TLx ad h) {δ0 : dp} {N : Nat} (hN : 10000000 ≤ N) {a0 : Nat} {x1 : Int32} {a2 : Nat} (k_a0 : q_K h.1 a0 = 11) (n_o : q_N h.1 a2 = 1) {δ : dp} (I : CI ad h.1 δ0 δ) : ok (D_L_reached N h.1 a0 x1 a2 δ) (fun r => CI ad h.1 δ0 r.2 ∧ (q_I r.2 7 1 (Ad ad 1)).toInt = (q_I δ 7 1 (Ad ad 1)).toInt ∧ ∀ a, q_I r.2 5 0 a = q_I δ 5 0 a ∧ q_I r.2 5 1 a = q_I δ 5 1 a ∧ q_I r.2 5 2 a = q_I δ 5 2 a ∧ q_I r.2 11 12 a = q_I δ 11 12 a) := by
  unfold D_L_reached
  refine ok_bind (k_X11_reached L hN (x1 := x1) k_a0 I) (fun r H => ?_)
  have K := H.2.1.1
  rcases r with ⟨v | n, d⟩
  · dsimp only
    exact ok_gd (by omega) (ok_some ⟨H.1, congrArg Int32.toInt (K 7 1 _ (by decide)), fun a => ⟨K 5 0 a (by decide), K 5 1 a (by decide), K 5 2 a (by decide), K 11 12 a (by decide)⟩⟩)
  · have q : n = 2 := H.2.2.1
    dsimp only
    subst q
    exact ok_eq rfl ⟨H.1, congrArg Int32.toInt (K 7 1 _ (by decide)), fun a => ⟨K 5 0 a (by decide), K 5 1 a (by decide), K 5 2 a (by decide), K 11 12 a (by decide)⟩⟩
set_option maxHeartbeats 4000000 in
theorem k_L_row {ad : List Nat} {h : hp} (L : Lay TLx ad h) {δ0 : dp} {N : Nat} (hN : 10000000 ≤ N) {a0 : Nat} {x1 : Int32} {a2 : Nat} (k_a0 : q_K h.1 a0 = 11) (n_o : q_N h.1 a2 = 1) {δ : dp} (I : CI ad h.1 δ0 δ) : ok (D_L_row N h.1 a0 x1 a2 δ) (fun r => CI ad h.1 δ0 r.2 ∧ (q_I r.2 7 1 (Ad ad 1)).toInt = (q_I δ 7 1 (Ad ad 1)).toInt ∧ ∀ a, q_I r.2 5 0 a = q_I δ 5 0 a ∧ q_I r.2 5 1 a = q_I δ 5 1 a ∧ q_I r.2 5 2 a = q_I δ 5 2 a ∧ q_I r.2 11 12 a = q_I δ 11 12 a) := by
  unfold D_L_row
  refine ok_bind (k_X11_row L hN (x1 := x1) k_a0 I) (fun r H => ?_)
  have K := H.2.1.1
  rcases r with ⟨v | n, d⟩
  · dsimp only
    exact ok_gd (by omega) (ok_some ⟨H.1, congrArg Int32.toInt (K 7 1 _ (by decide)), fun a => ⟨K 5 0 a (by decide), K 5 1 a (by decide), K 5 2 a (by decide), K 11 12 a (by decide)⟩⟩)
  · have q : n = 2 := H.2.2.1
    dsimp only
    subst q
    exact ok_eq rfl ⟨H.1, congrArg Int32.toInt (K 7 1 _ (by decide)), fun a => ⟨K 5 0 a (by decide), K 5 1 a (by decide), K 5 2 a (by decide), K 11 12 a (by decide)⟩⟩
set_option maxHeartbeats 4000000 in
theorem k_L_rowCall {ad : List Nat} {h : hp} (L : Lay TLx ad h) {δ0 : dp} {N : Nat} (hN : 10000000 ≤ N) {a0 : Nat} {x1 : Int32} {x2 : Int32} {a3 : Nat} (k_a0 : q_K h.1 a0 = 11) (n_o : q_N h.1 a3 = 1) {δ : dp} (I : CI ad h.1 δ0 δ) : ok (D_L_rowCall N h.1 a0 x1 x2 a3 δ) (fun r => CI ad h.1 δ0 r.2 ∧ (q_I r.2 7 1 (Ad ad 1)).toInt = (q_I δ 7 1 (Ad ad 1)).toInt ∧ ∀ a, q_I r.2 5 0 a = q_I δ 5 0 a ∧ q_I r.2 5 1 a = q_I δ 5 1 a ∧ q_I r.2 5 2 a = q_I δ 5 2 a ∧ q_I r.2 11 12 a = q_I δ 11 12 a) := by
  unfold D_L_rowCall
  refine ok_bind (k_X11_rowCall L hN (x1 := x1) (x2 := x2) k_a0 I) (fun r H => ?_)
  have K := H.2.1.1
  rcases r with ⟨v | n, d⟩
  · dsimp only
    exact ok_gd (by omega) (ok_some ⟨H.1, congrArg Int32.toInt (K 7 1 _ (by decide)), fun a => ⟨K 5 0 a (by decide), K 5 1 a (by decide), K 5 2 a (by decide), K 11 12 a (by decide)⟩⟩)
  · have q : n = 2 := H.2.2.1
    dsimp only
    subst q
    exact ok_eq rfl ⟨H.1, congrArg Int32.toInt (K 7 1 _ (by decide)), fun a => ⟨K 5 0 a (by decide), K 5 1 a (by decide), K 5 2 a (by decide), K 11 12 a (by decide)⟩⟩
set_option maxHeartbeats 4000000 in
theorem k_L_split {ad : List Nat} {h : hp} (L : Lay TLx ad h) {δ0 : dp} {N : Nat} (hN : 10000000 ≤ N) {a0 : Nat} {x1 : Int32} {x2 : Int32} {x3 : Int32} {a4 : Nat} (k_a0 : q_K h.1 a0 = 11) (n_o : q_N h.1 a4 = 1) {δ : dp} (I : CI ad h.1 δ0 δ) : ok (D_L_split N h.1 a0 x1 x2 x3 a4 δ) (fun r => CI ad h.1 δ0 r.2 ∧ (q_I r.2 7 1 (Ad ad 1)).toInt = (q_I δ 7 1 (Ad ad 1)).toInt ∧ ∀ a, q_I r.2 5 0 a = q_I δ 5 0 a ∧ q_I r.2 5 1 a = q_I δ 5 1 a ∧ q_I r.2 5 2 a = q_I δ 5 2 a ∧ q_I r.2 11 12 a = q_I δ 11 12 a) := by
  unfold D_L_split
  refine ok_bind (k_X11_split L hN (x1 := x1) (x2 := x2) (x3 := x3) k_a0 I) (fun r H => ?_)
  have K := H.2.1.1
  rcases r with ⟨v | n, d⟩
  · dsimp only
    exact ok_gd (by omega) (ok_some ⟨H.1, congrArg Int32.toInt (K 7 1 _ (by decide)), fun a => ⟨K 5 0 a (by decide), K 5 1 a (by decide), K 5 2 a (by decide), K 11 12 a (by decide)⟩⟩)
  · have q : n = 0 ∨ n = 2 := H.2.2.1
    dsimp only
    rcases q with rfl | rfl
    · exact ok_eq rfl ⟨H.1, congrArg Int32.toInt (K 7 1 _ (by decide)), fun a => ⟨K 5 0 a (by decide), K 5 1 a (by decide), K 5 2 a (by decide), K 11 12 a (by decide)⟩⟩
    · exact ok_eq rfl ⟨H.1, congrArg Int32.toInt (K 7 1 _ (by decide)), fun a => ⟨K 5 0 a (by decide), K 5 1 a (by decide), K 5 2 a (by decide), K 11 12 a (by decide)⟩⟩
set_option maxHeartbeats 4000000 in
theorem k_L_gap {ad : List Nat} {h : hp} (L : Lay TLx ad h) {δ0 : dp} {N : Nat} (hN : 10000000 ≤ N) {a0 : Nat} {x1 : Int32} {x2 : Int32} {a3 : Nat} (k_a0 : q_K h.1 a0 = 11) (n_o : q_N h.1 a3 = 1) {δ : dp} (I : CI ad h.1 δ0 δ) : ok (D_L_gap N h.1 a0 x1 x2 a3 δ) (fun r => CI ad h.1 δ0 r.2 ∧ (q_I r.2 7 1 (Ad ad 1)).toInt = (q_I δ 7 1 (Ad ad 1)).toInt ∧ ∀ a, q_I r.2 5 0 a = q_I δ 5 0 a ∧ q_I r.2 5 1 a = q_I δ 5 1 a ∧ q_I r.2 5 2 a = q_I δ 5 2 a ∧ q_I r.2 11 12 a = q_I δ 11 12 a) := by
  unfold D_L_gap
  refine ok_bind (k_X11_gap L hN (x1 := x1) (x2 := x2) k_a0 I) (fun r H => ?_)
  have K := H.2.1.1
  rcases r with ⟨v | n, d⟩
  · dsimp only
    exact ok_gd (by omega) (ok_some ⟨H.1, congrArg Int32.toInt (K 7 1 _ (by decide)), fun a => ⟨K 5 0 a (by decide), K 5 1 a (by decide), K 5 2 a (by decide), K 11 12 a (by decide)⟩⟩)
  · have q : n = 0 ∨ n = 2 := H.2.2.1
    dsimp only
    rcases q with rfl | rfl
    · exact ok_eq rfl ⟨H.1, congrArg Int32.toInt (K 7 1 _ (by decide)), fun a => ⟨K 5 0 a (by decide), K 5 1 a (by decide), K 5 2 a (by decide), K 11 12 a (by decide)⟩⟩
    · exact ok_eq rfl ⟨H.1, congrArg Int32.toInt (K 7 1 _ (by decide)), fun a => ⟨K 5 0 a (by decide), K 5 1 a (by decide), K 5 2 a (by decide), K 11 12 a (by decide)⟩⟩
set_option maxHeartbeats 4000000 in
theorem k_L_seeds {ad : List Nat} {h : hp} (L : Lay TLx ad h) {δ0 : dp} {N : Nat} (hN : 10000000 ≤ N) {a0 : Nat} {x1 : Int32} {x2 : Int32} {x3 : Int32} {x4 : Int32} {x5 : Int32} {a6 : Nat} (k_a0 : q_K h.1 a0 = 11) (n_o : q_N h.1 a6 = 1) {δ : dp} (I : CI ad h.1 δ0 δ) : ok (D_L_seeds N h.1 a0 x1 x2 x3 x4 x5 a6 δ) (fun r => CI ad h.1 δ0 r.2 ∧ (q_I r.2 7 1 (Ad ad 1)).toInt = (q_I δ 7 1 (Ad ad 1)).toInt ∧ ∀ a, q_I r.2 5 0 a = q_I δ 5 0 a ∧ q_I r.2 5 1 a = q_I δ 5 1 a ∧ q_I r.2 5 2 a = q_I δ 5 2 a ∧ q_I r.2 11 12 a = q_I δ 11 12 a) := by
  unfold D_L_seeds
  refine ok_bind (k_X11_seeds L hN (x1 := x1) (x2 := x2) (x3 := x3) (x4 := x4) (x5 := x5) k_a0 I) (fun r H => ?_)
  have K := H.2.1
  rcases r with ⟨v | n, d⟩
  · dsimp only
    exact ok_gd (by omega) (ok_some ⟨H.1, congrArg Int32.toInt (K 7 1 _ (by decide)), fun a => ⟨K 5 0 a (by decide), K 5 1 a (by decide), K 5 2 a (by decide), K 11 12 a (by decide)⟩⟩)
  · have q : n = 0 ∨ n = 1 ∨ n = 2 := H.2.2.1
    dsimp only
    rcases q with rfl | rfl | rfl
    · exact ok_eq rfl ⟨H.1, congrArg Int32.toInt (K 7 1 _ (by decide)), fun a => ⟨K 5 0 a (by decide), K 5 1 a (by decide), K 5 2 a (by decide), K 11 12 a (by decide)⟩⟩
    · exact ok_eq rfl ⟨H.1, congrArg Int32.toInt (K 7 1 _ (by decide)), fun a => ⟨K 5 0 a (by decide), K 5 1 a (by decide), K 5 2 a (by decide), K 11 12 a (by decide)⟩⟩
    · exact ok_eq rfl ⟨H.1, congrArg Int32.toInt (K 7 1 _ (by decide)), fun a => ⟨K 5 0 a (by decide), K 5 1 a (by decide), K 5 2 a (by decide), K 11 12 a (by decide)⟩⟩
