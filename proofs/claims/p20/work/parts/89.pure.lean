/-! all calls, houses alike -/
set_option maxHeartbeats 4000000 in
theorem LwS_step {ad : List Nat} {h : hp} (L : Lay TLx ad h) {N : Nat} (hN : 10000000 ≤ N) (kx : q_K h.1 (Ad ad 0) = 11) (km : q_K h.1 (Ad ad 99) = 12) (no : q_N h.1 (Ad ad 127) = 1) {δ : dp} (V : IY ad h.1 δ) (w : Int32) (a : Nat → Int32) : ∃ d, LwS N h.1 (Ad ad 0) (Ad ad 99) (Ad ad 127) w a δ d ∧ IY ad h.1 d := by
  unfold LwS
  refine its (fun _ => (by obtain ⟨d, ⟨b, δ1, e1, e2⟩, v⟩ := n_feed L hN kx km no V (x1 := a 1) (x2 := a 2) (x3 := a 3) (x4 := a 4) (x5 := a 5); exact ⟨d, ⟨b, b, δ1, e1, e2⟩, v⟩)) (fun _ => ?_)
  refine its (fun _ => (by obtain ⟨d, ⟨kk, b, δ1, e1, e2, _⟩, v⟩ := stepS2 L hN kx km no V (x := a 1); exact ⟨d, ⟨kk, b, δ1, e1, e2⟩, v⟩)) (fun _ => ?_)
  refine its (fun _ => n_thief L hN kx km no V (x1 := a 1)) (fun _ => ?_)
  refine its (fun _ => n_fault L hN kx km no V ) (fun _ => ?_)
  refine its (fun _ => n_told L hN kx km no V (x1 := a 1)) (fun _ => ?_)
  refine its (fun _ => (by obtain ⟨d, ⟨kk, b, δ1, e1, e2, _⟩, v⟩ := y_put L hN kx km no V (x1 := a 1) (x2 := a 2); exact ⟨d, ⟨kk, b, δ1, e1, e2⟩, v⟩)) (fun _ => ?_)
  refine its (fun _ => (by obtain ⟨d, ⟨kk, b, δ1, e1, e2, _⟩, v⟩ := y_drop L hN kx km no V (x1 := a 1) (x2 := a 2); exact ⟨d, ⟨kk, b, δ1, e1, e2⟩, v⟩)) (fun _ => ?_)
  refine its (fun _ => (by obtain ⟨d, ⟨kk, b, δ1, e1, e2, _⟩, v⟩ := y_has L hN kx km no V (x1 := a 1) (x2 := a 2); exact ⟨d, ⟨kk, b, δ1, e1, e2⟩, v⟩)) (fun _ => ?_)
  refine its (fun _ => (by obtain ⟨d, ⟨kk, b, δ1, e1, e2, _⟩, v⟩ := y_of L hN kx km no V (x1 := a 1) (x2 := a 2); exact ⟨d, ⟨kk, b, δ1, e1, e2⟩, v⟩)) (fun _ => ?_)
  refine its (fun _ => (by obtain ⟨d, ⟨kk, b, δ1, e1, e2, _⟩, v⟩ := y_next L hN kx km no V (x1 := a 1) (x2 := a 2); exact ⟨d, ⟨kk, b, δ1, e1, e2⟩, v⟩)) (fun _ => ?_)
  refine its (fun _ => (by obtain ⟨d, ⟨kk, b, δ1, e1, e2, _⟩, v⟩ := y_before L hN kx km no V (x1 := a 1) (x2 := a 2); exact ⟨d, ⟨kk, b, δ1, e1, e2⟩, v⟩)) (fun _ => ?_)
  refine its (fun _ => (by obtain ⟨d, ⟨kk, b, δ1, e1, e2, _⟩, v⟩ := y_kth L hN kx km no V (x1 := a 1) (x2 := a 2); exact ⟨d, ⟨kk, b, δ1, e1, e2⟩, v⟩)) (fun _ => ?_)
  refine its (fun _ => (by obtain ⟨d, ⟨kk, b, δ1, e1, e2, _⟩, v⟩ := y_between L hN kx km no V (x1 := a 1) (x2 := a 2) (x3 := a 3); exact ⟨d, ⟨kk, b, δ1, e1, e2⟩, v⟩)) (fun _ => ?_)
  refine its (fun _ => n_touches L hN kx km no V (x1 := a 1) (x2 := a 2) (x3 := a 3) (x4 := a 4)) (fun _ => ?_)
  refine its (fun _ => n_size L hN kx km no V (x1 := a 1) (x2 := a 2)) (fun _ => ?_)
  refine its (fun _ => n_bound L hN kx km no V (x1 := a 1)) (fun _ => ?_)
  refine its (fun _ => n_worst L hN kx km no V (x1 := a 1) (x2 := a 2) (x3 := a 3)) (fun _ => ?_)
  refine its (fun _ => n_bad L hN kx km no V (x1 := a 1) (x2 := a 2) (x3 := a 3)) (fun _ => ?_)
  refine its (fun _ => y_was L hN kx km no V (x1 := a 1) (x2 := a 2) (x3 := a 3)) (fun _ => ?_)
  refine its (fun _ => n_asked L hN kx km no V (x1 := a 1) (x2 := a 2) (x3 := a 3) (x4 := a 4)) (fun _ => ?_)
  refine its (fun _ => (by obtain ⟨d, ⟨kk, b, δ1, e1, e2, _⟩, v⟩ := y_since L hN kx km no V (x1 := a 1) (x2 := a 2) (x3 := a 3); exact ⟨d, ⟨kk, b, δ1, e1, e2⟩, v⟩)) (fun _ => ?_)
  refine its (fun _ => n_room L hN kx km no V (x1 := a 1) (x2 := a 2)) (fun _ => ?_)
  refine its (fun _ => (by obtain ⟨d, ⟨kk, b, δ1, e1, e2, _⟩, v⟩ := y_joins L hN kx km no V (x1 := a 1) (x2 := a 2) (x3 := a 3); exact ⟨d, ⟨kk, b, δ1, e1, e2⟩, v⟩)) (fun _ => ?_)
  refine its (fun _ => (by obtain ⟨d, ⟨kk, b, δ1, e1, e2, _⟩, v⟩ := y_runs L hN kx km no V (x1 := a 1) (x2 := a 2); exact ⟨d, ⟨kk, b, δ1, e1, e2⟩, v⟩)) (fun _ => ?_)
  refine its (fun _ => n_steals L hN kx km no V (x1 := a 1) (x2 := a 2) (x3 := a 3) (x4 := a 4)) (fun _ => ?_)
  refine its (fun _ => n_reached L hN kx km no V (x1 := a 1)) (fun _ => ?_)
  refine its (fun _ => n_row L hN kx km no V (x1 := a 1)) (fun _ => ?_)
  refine its (fun _ => n_rowCall L hN kx km no V (x1 := a 1) (x2 := a 2)) (fun _ => ?_)
  refine its (fun _ => (by obtain ⟨d, ⟨kk, b, δ1, e1, e2, _⟩, v⟩ := y_split L hN kx km no V (x1 := a 1) (x2 := a 2) (x3 := a 3); exact ⟨d, ⟨kk, b, δ1, e1, e2⟩, v⟩)) (fun _ => ?_)
  refine its (fun _ => n_gap L hN kx km no V (x1 := a 1) (x2 := a 2)) (fun _ => ?_)
  refine its (fun _ => n_seeds L hN kx km no V (x1 := a 1) (x2 := a 2) (x3 := a 3) (x4 := a 4) (x5 := a 5)) (fun _ => ?_)
  refine its (fun _ => (by obtain ⟨d, ⟨b, δ1, e1, e2⟩, v⟩ := stepM L hN kx km V; exact ⟨d, ⟨b, b, δ1, e1, e2⟩, v⟩)) (fun _ => ?_)
  refine its (fun _ => (by obtain ⟨d, ⟨b, δ1, e1, e2⟩, v⟩ := stepW L hN kx km V; exact ⟨d, ⟨b, b, δ1, e1, e2⟩, v⟩)) (fun _ => ?_)
  refine its (fun _ => n_status L hN kx km no V (x1 := a 1)) (fun _ => ?_)
  refine its (fun _ => n_count L hN kx km no V (x1 := a 1)) (fun _ => ?_)
  exact ⟨δ, rfl, V⟩
theorem IX_0 {ad : List Nat} {h : hp} (L : Lay TLx ad h) : IX ad h.1 h.2 := by
  refine ⟨IV_0 L, ?_, fun i => by rw [fR_101 L]; decide, by rw [fI_0_12 L, fI_99_18 L], by rw [fI_3_0 L, fI_99_10 L], by rw [fI_3_1 L, fI_99_12 L], by rw [fI_3_2 L, fI_99_11 L]⟩
  funext i
  rw [fR_2 L, fR_101 L]
theorem IY_0 {ad : List Nat} {h : hp} (L : Lay TLx ad h) : IY ad h.1 h.2 := by
  refine ⟨IX_0 L, fun K hK => ?_, fun j hj => ?_⟩
  · have m1 : hM ad h.2 K = 0 := by unfold hM; rw [fR_103 L]; rfl
    have m2 : hN ad h.2 K = 0 := by unfold hN; rw [fR_106 L]; rfl
    rcases (show K = 0 ∨ K = 1 ∨ K = 2 ∨ K = 3 by omega) with rfl | rfl | rfl | rfl
    · exact HE_0 (by show (q_I h.2 3 1 (Ad ad 76)).toInt = 0; rw [fI_76_1 L]; rfl) (by show (q_I h.2 2 4 (Ad ad 75)).toInt = 0; rw [fI_75_4 L]; rfl) m1 m2
    · exact HE_0 (by show (q_I h.2 3 1 (Ad ad 82)).toInt = 0; rw [fI_82_1 L]; rfl) (by show (q_I h.2 2 4 (Ad ad 81)).toInt = 0; rw [fI_81_4 L]; rfl) m1 m2
    · exact HE_0 (by show (q_I h.2 3 1 (Ad ad 88)).toInt = 0; rw [fI_88_1 L]; rfl) (by show (q_I h.2 2 4 (Ad ad 87)).toInt = 0; rw [fI_87_4 L]; rfl) m1 m2
    · exact HE_0 (by show (q_I h.2 3 1 (Ad ad 94)).toInt = 0; rw [fI_94_1 L]; rfl) (by show (q_I h.2 2 4 (Ad ad 93)).toInt = 0; rw [fI_93_4 L]; rfl) m1 m2
  · exfalso
    rw [fI_99_18 L] at hj
    have z0 : (0 : Int32).toInt = 0 := rfl
    omega
theorem pure_PH (ad : List Nat) (h : hp) (x m o : Nat) (L : Lay TLf ad h) (hx : ad[0]? = some x) (hm : ad[99]? = some m) (ho : ad[127]? = some o) : ∃ Inv : Nat → dp → Prop, Inv 0 h.2 ∧ ∀ k δ, k < 64 → Inv k δ → ∀ (w : Int32) (a : Nat → Int32), ∃ δ', LwS pN h.1 x m o w a δ δ' ∧ Inv (k + 1) δ' := by
  rw [TLf_eq] at L
  obtain rfl := (Ad_at hx)
  obtain rfl := (Ad_at hm)
  obtain rfl := (Ad_at ho)
  refine ⟨fun _ δ => IY ad h.1 δ, IY_0 L, fun k δ _ V w a => ?_⟩
  exact LwS_step L (Nat.le_refl _) ((lay_knd L (by decide)).trans (by decide)) ((lay_knd L (by decide)).trans (by decide)) (fN_127 L) V w a


