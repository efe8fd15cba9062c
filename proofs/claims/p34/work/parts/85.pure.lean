/-! all calls -/
theorem okq {o : Option (Int32 × dp)} {ad : List Nat} {g : gp} {δ : dp} (V : IX ad g δ) (h : ok o (fun r => r.2 = δ)) : ok o (fun r => CI ad g δ r.2 ∧ (q_I r.2 7 1 (Ad ad 1)).toInt = (q_I δ 7 1 (Ad ad 1)).toInt ∧ ∀ a, q_I r.2 5 0 a = q_I δ 5 0 a ∧ q_I r.2 5 1 a = q_I δ 5 1 a ∧ q_I r.2 5 2 a = q_I δ 5 2 a ∧ q_I r.2 11 12 a = q_I δ 11 12 a) := ok_mono h (fun r e => by rw [e]; exact ⟨V.1.1, rfl, fun a => ⟨rfl, rfl, rfl, rfl⟩⟩)
set_option maxHeartbeats 4000000 in
theorem LwS_step {ad : List Nat} {h : hp} (L : Lay TLx ad h) {N : Nat} (hN : 10000000 ≤ N) (kx : q_K h.1 (Ad ad 0) = 11) (km : q_K h.1 (Ad ad 99) = 12) (no : q_N h.1 (Ad ad 127) = 1) {δ : dp} (V : IX ad h.1 δ) (w : Int32) (a : Nat → Int32) : ∃ d, LwS N h.1 (Ad ad 0) (Ad ad 99) (Ad ad 127) w a δ d ∧ IX ad h.1 d := by
  unfold LwS
  refine its (fun _ => (by obtain ⟨d, ⟨b, δ1, e1, e2⟩, v⟩ := stepF L hN km V (x1 := a 1) (x2 := a 2) (x3 := a 3) (x4 := a 4) (x5 := a 5); exact ⟨d, ⟨b, b, δ1, e1, e2⟩, v⟩)) (fun _ => ?_)
  refine its (fun _ => (by obtain ⟨d, ⟨kk, b, δ1, e1, e2, _⟩, v⟩ := stepS L hN kx km no V (x := a 1); exact ⟨d, ⟨kk, b, δ1, e1, e2⟩, v⟩)) (fun _ => ?_)
  refine its (fun _ => stepT L hN kx km no V (x := a 1)) (fun _ => ?_)
  refine its (fun _ => stepA V (okq V (k_X11_fault L hN  kx V.1.1)) (fun δ1 I1 O1 => o_fault L hN  km I1 O1)) (fun _ => ?_)
  refine its (fun _ => stepA V (k_L_told L hN (x1 := a 1) kx no V.1.1) (fun δ1 I1 O1 => o_told L hN (x1 := a 1) km I1 O1)) (fun _ => ?_)
  refine its (fun _ => stepA V (k_L_put L hN (x1 := a 1) (x2 := a 2) kx no V.1.1) (fun δ1 I1 O1 => o_put L hN (x1 := a 1) (x2 := a 2) km I1 O1)) (fun _ => ?_)
  refine its (fun _ => stepA V (k_L_drop L hN (x1 := a 1) (x2 := a 2) kx no V.1.1) (fun δ1 I1 O1 => o_drop L hN (x1 := a 1) (x2 := a 2) km I1 O1)) (fun _ => ?_)
  refine its (fun _ => stepA V (k_L_has L hN (x1 := a 1) (x2 := a 2) kx no V.1.1) (fun δ1 I1 O1 => o_has L hN (x1 := a 1) (x2 := a 2) km I1 O1)) (fun _ => ?_)
  refine its (fun _ => stepA V (k_L_of L hN (x1 := a 1) (x2 := a 2) kx no V.1.1) (fun δ1 I1 O1 => o_of_ L hN (x1 := a 1) (x2 := a 2) km I1 O1)) (fun _ => ?_)
  refine its (fun _ => stepA V (k_L_next L hN (x1 := a 1) (x2 := a 2) kx no V.1.1) (fun δ1 I1 O1 => o_next L hN (x1 := a 1) (x2 := a 2) km I1 O1)) (fun _ => ?_)
  refine its (fun _ => stepA V (k_L_before L hN (x1 := a 1) (x2 := a 2) kx no V.1.1) (fun δ1 I1 O1 => o_before L hN (x1 := a 1) (x2 := a 2) km I1 O1)) (fun _ => ?_)
  refine its (fun _ => stepA V (k_L_kth L hN (x1 := a 1) (x2 := a 2) kx no V.1.1) (fun δ1 I1 O1 => o_kth L hN (x1 := a 1) (x2 := a 2) km I1 O1)) (fun _ => ?_)
  refine its (fun _ => stepA V (k_L_between L hN (x1 := a 1) (x2 := a 2) (x3 := a 3) kx no V.1.1) (fun δ1 I1 O1 => o_between L hN (x1 := a 1) (x2 := a 2) (x3 := a 3) km I1 O1)) (fun _ => ?_)
  refine its (fun _ => stepA V (k_L_touches L hN (x1 := a 1) (x2 := a 2) (x3 := a 3) (x4 := a 4) kx no V.1.1) (fun δ1 I1 O1 => o_touches L hN (x1 := a 1) (x2 := a 2) (x3 := a 3) (x4 := a 4) km I1 O1)) (fun _ => ?_)
  refine its (fun _ => stepA V (k_L_size L hN (x1 := a 1) (x2 := a 2) kx no V.1.1) (fun δ1 I1 O1 => o_size L hN (x1 := a 1) (x2 := a 2) km I1 O1)) (fun _ => ?_)
  refine its (fun _ => stepA V (k_L_bound L hN (x1 := a 1) kx no V.1.1) (fun δ1 I1 O1 => o_bound L hN (x1 := a 1) km I1 O1)) (fun _ => ?_)
  refine its (fun _ => stepA V (k_L_worst L hN (x1 := a 1) (x2 := a 2) (x3 := a 3) kx no V.1.1) (fun δ1 I1 O1 => o_worst L hN (x1 := a 1) (x2 := a 2) (x3 := a 3) km I1 O1)) (fun _ => ?_)
  refine its (fun _ => stepA V (k_L_bad L hN (x1 := a 1) (x2 := a 2) (x3 := a 3) kx no V.1.1) (fun δ1 I1 O1 => o_bad L hN (x1 := a 1) (x2 := a 2) (x3 := a 3) km I1 O1)) (fun _ => ?_)
  refine its (fun _ => stepA V (k_L_was L hN (x1 := a 1) (x2 := a 2) (x3 := a 3) kx no V.1.1) (fun δ1 I1 O1 => o_was L hN (x1 := a 1) (x2 := a 2) (x3 := a 3) km I1 O1)) (fun _ => ?_)
  refine its (fun _ => stepA V (k_L_asked L hN (x1 := a 1) (x2 := a 2) (x3 := a 3) (x4 := a 4) kx no V.1.1) (fun δ1 I1 O1 => o_asked L hN (x1 := a 1) (x2 := a 2) (x3 := a 3) (x4 := a 4) km I1 O1)) (fun _ => ?_)
  refine its (fun _ => stepA V (k_L_since L hN (x1 := a 1) (x2 := a 2) (x3 := a 3) kx no V.1.1) (fun δ1 I1 O1 => o_since L hN (x1 := a 1) (x2 := a 2) (x3 := a 3) km I1 O1)) (fun _ => ?_)
  refine its (fun _ => stepA V (k_L_room L hN (x1 := a 1) (x2 := a 2) kx no V.1.1) (fun δ1 I1 O1 => o_room L hN (x1 := a 1) (x2 := a 2) km I1 O1)) (fun _ => ?_)
  refine its (fun _ => stepA V (k_L_joins L hN (x1 := a 1) (x2 := a 2) (x3 := a 3) kx no V.1.1) (fun δ1 I1 O1 => o_joins L hN (x1 := a 1) (x2 := a 2) (x3 := a 3) km I1 O1)) (fun _ => ?_)
  refine its (fun _ => stepA V (k_L_runs L hN (x1 := a 1) (x2 := a 2) kx no V.1.1) (fun δ1 I1 O1 => o_runs L hN (x1 := a 1) (x2 := a 2) km I1 O1)) (fun _ => ?_)
  refine its (fun _ => stepA V (k_L_steals L hN (x1 := a 1) (x2 := a 2) (x3 := a 3) (x4 := a 4) kx no V.1.1) (fun δ1 I1 O1 => o_steals L hN (x1 := a 1) (x2 := a 2) (x3 := a 3) (x4 := a 4) km I1 O1)) (fun _ => ?_)
  refine its (fun _ => stepA V (k_L_reached L hN (x1 := a 1) kx no V.1.1) (fun δ1 I1 O1 => o_reached L hN (x1 := a 1) km I1 O1)) (fun _ => ?_)
  refine its (fun _ => stepA V (k_L_row L hN (x1 := a 1) kx no V.1.1) (fun δ1 I1 O1 => o_row L hN (x1 := a 1) km I1 O1)) (fun _ => ?_)
  refine its (fun _ => stepA V (k_L_rowCall L hN (x1 := a 1) (x2 := a 2) kx no V.1.1) (fun δ1 I1 O1 => o_rowCall L hN (x1 := a 1) (x2 := a 2) km I1 O1)) (fun _ => ?_)
  refine its (fun _ => stepA V (k_L_split L hN (x1 := a 1) (x2 := a 2) (x3 := a 3) kx no V.1.1) (fun δ1 I1 O1 => o_split L hN (x1 := a 1) (x2 := a 2) (x3 := a 3) km I1 O1)) (fun _ => ?_)
  refine its (fun _ => stepA V (k_L_gap L hN (x1 := a 1) (x2 := a 2) kx no V.1.1) (fun δ1 I1 O1 => o_gap L hN (x1 := a 1) (x2 := a 2) km I1 O1)) (fun _ => ?_)
  refine its (fun _ => stepA V (k_L_seeds L hN (x1 := a 1) (x2 := a 2) (x3 := a 3) (x4 := a 4) (x5 := a 5) kx no V.1.1) (fun δ1 I1 O1 => o_seeds L hN (x1 := a 1) (x2 := a 2) (x3 := a 3) (x4 := a 4) (x5 := a 5) km I1 O1)) (fun _ => ?_)
  refine its (fun _ => (by obtain ⟨d, ⟨b, δ1, e1, e2⟩, v⟩ := stepI V (P := pIm) pIm_u (ok_mono (k_X11_image L hN  kx V.1.1) (fun r hr => ⟨hr.1, by rw [hr.2.1.1 7 1 (Ad ad 1) (by decide)], fun a => ⟨hr.2.1.1 5 0 a (by decide), hr.2.1.1 5 1 a (by decide), hr.2.1.1 5 2 a (by decide)⟩, by have p1 := hr.2.2.1; have p2 := hr.2.2.2; unfold pIm; omega⟩)) (fun δ1 I1 O1 => ok_mono (ok_and (o_image L hN km I1 O1) (k_X12_image L hN km I1)) (fun r hr => ⟨hr.1, by have p1 := hr.2.2.2.1; have p2 := hr.2.2.2.2; unfold pIm; omega⟩)); exact ⟨d, ⟨b, b, δ1, e1, e2⟩, v⟩)) (fun _ => ?_)
  refine its (fun _ => stepI V (P := pRs) pRs_u (ok_mono (k_X11_restore L hN  kx V.1.1) (fun r hr => ⟨hr.1, by rw [hr.2.1.1 7 1 (Ad ad 1) (by decide)], fun a => ⟨hr.2.1.1 5 0 a (by decide), hr.2.1.1 5 1 a (by decide), hr.2.1.1 5 2 a (by decide)⟩, by have p1 := hr.2.2.1; have p2 := hr.2.2.2; unfold pRs; omega⟩)) (fun δ1 I1 O1 => ok_mono (ok_and (o_restore L hN km I1 O1) (k_X12_restore L hN km I1)) (fun r hr => ⟨hr.1, by have p1 := hr.2.2.2.1; have p2 := hr.2.2.2.2; unfold pRs; omega⟩))) (fun _ => ?_)
  refine its (fun _ => stepA V (okq V (k_X11_status L hN (x1 := a 1) kx V.1.1)) (fun δ1 I1 O1 => o_status L hN (x1 := a 1) km I1 O1)) (fun _ => ?_)
  refine its (fun _ => stepA V (okq V (k_X11_count L hN (x1 := a 1) kx V.1.1)) (fun δ1 I1 O1 => o_count L hN (x1 := a 1) km I1 O1)) (fun _ => ?_)
  exact ⟨δ, rfl, V⟩
theorem IX_0 {ad : List Nat} {h : hp} (L : Lay TLx ad h) : IX ad h.1 h.2 := by
  refine ⟨IV_0 L, ?_, fun i => by rw [fR_101 L]; decide, by rw [fI_0_12 L, fI_99_18 L], by rw [fI_3_0 L, fI_99_10 L], by rw [fI_3_1 L, fI_99_12 L], by rw [fI_3_2 L, fI_99_11 L]⟩
  funext i
  rw [fR_2 L, fR_101 L]
theorem pure_PH (ad : List Nat) (h : hp) (x m o : Nat) (L : Lay TLf ad h) (hx : ad[0]? = some x) (hm : ad[99]? = some m) (ho : ad[127]? = some o) : ∃ Inv : Nat → dp → Prop, Inv 0 h.2 ∧ ∀ k δ, k < 64 → Inv k δ → ∀ (w : Int32) (a : Nat → Int32), ∃ δ', LwS pN h.1 x m o w a δ δ' ∧ Inv (k + 1) δ' := by
  rw [TLf_eq] at L
  obtain rfl := (Ad_at hx)
  obtain rfl := (Ad_at hm)
  obtain rfl := (Ad_at ho)
  refine ⟨fun _ δ => IX ad h.1 δ, IX_0 L, fun k δ _ V w a => ?_⟩
  exact LwS_step L (Nat.le_refl _) ((lay_knd L (by decide)).trans (by decide)) ((lay_knd L (by decide)).trans (by decide)) (fN_127 L) V w a

