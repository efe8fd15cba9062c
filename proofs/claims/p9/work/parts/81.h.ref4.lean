/-! the reference's loop over the clauses -/
set_option maxHeartbeats 4000000 in
theorem rl_49 {N : Nat} (hN : 10000000 ≤ N) {g : gp} {t bt n : Nat} (hn : n ≤ 500) (ob : q_O g 12 9 t = some bt) {x1 : Int32} {β : Nat → Int32} : ∀ (mf k p m : Nat) (w e u : Int32) (δ : dp), p ≤ n → m < 8 → n - p < k → q_R δ bt = β → RS t n p δ → hs (L_X12_shape_49 N g t x1 mf w e u (Int32.ofNat m) δ) (fun r => RF t δ (rZ β n k (p, m, w, u, e)) r) := by
  intro mf
  induction mf with
  | zero => intro k p m w e u δ _ _ _ _ _; exact hs_none
  | succ mf ih =>
    intro k p m w e u δ hp hm hk hβ h
    obtain ⟨k', rfl⟩ : ∃ k', k = k' + 1 := ⟨k - 1, by omega⟩
    obtain ⟨b1, b2, b4, o1, o2, o4⟩ := seen_n ⟨m, hm⟩
    dsimp only at b1 b2 b4 o1 o2 o4
    have gp : p ≤ sp β n p := rE_ge 501 p
    have l1 : sp β n p ≤ n := rE_le 501 p hp
    have gw : sp β n p ≤ we β n (sp β n p) := rE_ge 501 _
    have l2 : we β n (sp β n p) ≤ n := rE_le 501 _ l1
    unfold L_X12_shape_49
    refine hs_bind r_fine (fun r hr => ?_)
    obtain ⟨f1, f2⟩ := hr
    rw [f1]
    refine hs_ite (fun c => ?_) (fun _ => ?_)
    · rcases f2 with ⟨a, _⟩ | ⟨_, b⟩
      · rw [a] at c; exact absurd c (by decide)
      · exact absurd h.2.2 b
    clear f1 f2
    -- isMore
    refine hs_bind (P := fun r => kp [(12, 4)] δ r.2 ∧ q_R r.2 = q_R δ ∧ (q_I r.2 12 4 t).toInt = (sp β n p : Int) ∧ (r.1 = 1 ∧ sp β n p < n ∨ r.1 = 0 ∧ ¬ sp β n p < n)) ?_ (fun r hr => ?_)
    · unfold D_X12_isMore D_X12_here J_X12_isMore_21
      refine hs_bind (r_here hn ob N p δ h.1 h.2.1) (fun q hq => ?_)
      obtain ⟨q1, q2, q3, _⟩ := hq
      rw [hβ] at q3
      have q5 : (q_I q.2 12 3 t).toInt = (n : Int) := by rw [q1 12 3 t (by decide)]; exact h.2.1
      refine hs_ite (fun c => hs_gp (fun _ => hs_some ⟨q1, q2, q3, Or.inr ⟨rfl, ?_⟩⟩)) (fun c => hs_gp (fun _ => hs_some ⟨q1, q2, q3, Or.inl ⟨rfl, ?_⟩⟩))
      · have := o_le c; omega
      · have := o_nle c; omega
    obtain ⟨d1, d2, d3, d4⟩ := hr
    have hr2 : RS t n (sp β n p) r.2 := h.k d1 d3
    have dβ : q_R r.2 bt = β := by rw [d2]; exact hβ
    refine hs_ite (fun c => ?_) (fun c => ?_)
    · rcases d4 with ⟨a, _⟩ | ⟨_, b⟩
      · rw [a] at c; exact absurd c (by decide)
      have er : rZ β n (k' + 1) (p, m, w, u, e) = .inr (p, m, w, u, e) := by
        unfold rZ
        rw [if_neg b]
      rw [er]
      exact hs_mono (r_267g hr2.2.2) (fun q hq => hq.k d1 (by decide) (by decide) (by decide) (by decide))
    have y : sp β n p < n := by
      rcases d4 with ⟨_, b⟩ | ⟨a, _⟩
      · exact b
      · exact absurd a c
    have er : rZ β n (k' + 1) (p, m, w, u, e) = (match cZ β n (sp β n p) (we β n (sp β n p)) m w u e with | .inl e => .inl e | .inr y => rZ β n k' y) := by
      show (if sp β n p < n then _ else _) = _
      rw [if_pos y]
      rfl
    rw [er]
    clear er d4 c
    -- a word at a state that stands at the word
    have W : ∀ d, q_R d bt = β → RS t n (sp β n p) d → hs (D_X12_word N g t d) (fun q => kp [(12, 4)] d q.2 ∧ q_R q.2 bt = β ∧ RS t n (sp β n p) q.2 ∧ ∀ k, k < 16 → (q.1 = ofg k 0 (tx_n k) 0 ∧ wI β (sp β n p) (we β n (sp β n p)) k ∨ ¬ q.1 = ofg k 0 (tx_n k) 0 ∧ ¬ wI β (sp β n p) (we β n (sp β n p)) k)) := by
      intro d hd hs1
      refine hs_mono (rD_word hn l1 ob hs1.1 hs1.2.1) (fun q hq => ?_)
      obtain ⟨q1, q2, q3, q4⟩ := hq
      rw [hd, sp_sp hn] at q3 q4
      exact ⟨q1, by rw [q2]; exact hd, hs1.k q1 q3, q4⟩
    -- a fault
    have bad : ∀ (kk : Int32) (kn : Nat) (w' e' u' s' its : Int32) (d : dp), kk.toInt = (kn : Int) → kn ≤ 4 → kp [(12, 4)] δ d → RS t n (sp β n p) d → hs ((D_X12_wrong N g t kk (q_I d 12 4 t) d).bind fun r_68 => J_X12_shape_148 N g t x1 (L_X12_shape_49 N g t x1 mf) w' e' u' s' its r_68) (fun r => RF t δ (.inl kn) r) := by
      intro kk kn w' e' u' s' its d hkk hkn kd hd
      refine hs_bind (r_wrong hd.2.2) (fun q hq => ?_)
      obtain ⟨q1, q2, q3, q4⟩ := hq
      have q5 : 0 ≤ (q_I q 12 5 t).toInt := by rw [q3, hd.1]; omega
      have zm : (-1 : Int32).toInt = -1 := rfl
      unfold J_X12_shape_148
      refine hs_bind r_fine (fun r hr => ?_)
      obtain ⟨f1, f2⟩ := hr
      rw [f1]
      refine hs_ite (fun _ => ?_) (fun c => ?_)
      · exact hs_mono (r_267b hkn q5 (by rw [q4]; exact hkk)) (fun z hz => hz.k (kp_t kd q1) (by decide) (by decide) (by decide) (by decide))
      · rcases f2 with ⟨_, b⟩ | ⟨a, _⟩
        · have := o_eq b; omega
        · exact absurd a c
    -- the value behind the word
    have val : ∀ (its : Int32) (d : dp), kp [(12, 4)] δ d → q_R d bt = β → RS t n (sp β n p) d → hs (J_X12_shape_148 N g t x1 (L_X12_shape_49 N g t x1 mf) w e u (Int32.ofNat m) its d) (fun r => its = 1 ∧ (m % 2 = 0 → RF t δ (match nG β n (we β n (sp β n p)) 2 16 (fun p v => (p, m + 1, Int32.ofNat v, u, e)) with | .inl e => .inl e | .inr y => rZ β n k' y) r) ∨ its = 4 ∧ (m / 4 % 2 = 0 → RF t δ (match nG β n (we β n (sp β n p)) 1 5 (fun p v => (p, m + 4, w, u, Int32.ofNat v)) with | .inl e => .inl e | .inr y => rZ β n k' y) r) ∨ its ≠ 1 ∧ its ≠ 4 ∧ (its = 2 → m / 2 % 2 = 0 → RF t δ (match uG β n (sp β n (we β n (sp β n p))) (we β n (sp β n (we β n (sp β n p)))) (fun p u' => (p, m + 2, w, u', e)) with | .inl e => .inl e | .inr y => rZ β n k' y) r)) := by
      intro its d kd hd hs1
      unfold J_X12_shape_148
      refine hs_bind r_fine (fun r hr => ?_)
      obtain ⟨f1, f2⟩ := hr
      rw [f1]
      refine hs_ite (fun c => ?_) (fun _ => ?_)
      · rcases f2 with ⟨a, _⟩ | ⟨_, b⟩
        · rw [a] at c; exact absurd c (by decide)
        · exact absurd hs1.2.2 b
      clear f1 f2
      refine hs_biv (fun s es => ?_)
      unfold D_X12_pass
      refine hs_bind (rl_pass hn ob N (sp β n p) d hs1.1 hs1.2.1) (fun d2 hd2 => ?_)
      obtain ⟨p1, p2, p3⟩ := hd2
      rw [hd] at p3
      have h2 : RS t n (we β n (sp β n p)) d2 := hs1.k p1 p3
      have kd2 : kp [(12, 4)] δ d2 := kp_w (by decide) (kp_t kd p1)
      have dβ2 : q_R d2 bt = β := by rw [p2]; exact hd
      have gq : we β n (sp β n p) ≤ sp β n (we β n (sp β n p)) := rE_ge 501 _
      have lq : sp β n (we β n (sp β n p)) ≤ n := rE_le 501 _ l2
      have gq2 : sp β n (we β n (sp β n p)) ≤ we β n (sp β n (we β n (sp β n p))) := rE_ge 501 _
      have lb : ∀ (w' e' u' s' : Int32) (d3 : dp), 0 ≤ (q_I d3 12 5 t).toInt → (q_I d3 12 6 t).toInt = 1 → hs (L_X12_shape_49 N g t x1 mf w' e' u' s' d3) (fun r => RF t d3 (.inl 1) r) := fun w' e' u' s' d3 a b => rl_bad (k := 1) (by decide) mf w' e' u' s' d3 a b
      -- numbers
      have num : ∀ (lo hi : Nat) (xl xh : Int32) (m' : Nat) (fw fe : Nat → Int32), xl.toInt = (lo : Int) → xh.toInt = (hi : Int) → hi ≤ 99999 → m' < 8 → s = Int32.ofNat m' → hs ((D_X12_readNumber N g t xl xh d2).bind fun r_66 => J_X12_shape_258 N g t x1 (L_X12_shape_49 N g t x1 mf) (fw 0) (fe 0) u s r_66.2) (fun r => True) := fun _ _ _ _ _ _ _ _ _ _ _ _ => fun _ _ => trivial
      clear num
      refine hs_ite (fun c1 => ?_) (fun c1 => ?_)
      · refine hs_mono (P := fun r => m % 2 = 0 → RF t δ (match nG β n (we β n (sp β n p)) 2 16 (fun p v => (p, m + 1, Int32.ofNat v, u, e)) with | .inl e => .inl e | .inr y => rZ β n k' y) r) ?_ (fun r hr => Or.inl ⟨c1, hr⟩)
        by_cases hb : m % 2 = 0
        · have es' : s = Int32.ofNat (m + 1) := by rw [es, c1]; exact o1 hb
          refine hs_bind (rD_num hn (by decide) ob (lo := 2) (hi := 16) rfl rfl h2.1 h2.2.1 h2.2.2) (fun r hr => ?_)
          obtain ⟨n1, n2, n3⟩ := hr
          rw [dβ2] at n3
          have kr : kp [(12, 4), (12, 5), (12, 6)] δ r.2 := kp_w (by decide) (kp_t kd2 n1)
          have rβ : q_R r.2 bt = β := by rw [n2]; exact dβ2
          cases hz : nM β n (we β n (sp β n p)) 2 16 with
          | inl q =>
            rw [hz] at n3
            have hng : nG β n (we β n (sp β n p)) 2 16 (fun p v => (p, m + 1, Int32.ofNat v, u, e)) = .inl q := by unfold nG; rw [hz]
            have q4 : q ≤ 4 := by
              unfold nM at hz
              split at hz
              · injection hz with hz; omega
              · split at hz
                · injection hz with hz; omega
                · cases hz
            unfold J_X12_shape_258
            refine hs_bind (r_signb n3.1) (fun r2 e2 => ?_)
            rw [e2, hng]
            exact hs_mono (rl_bad q4 mf _ _ _ _ r.2 n3.1 n3.2) (fun z hz _ => hz.k kr (by decide) (by decide) (by decide) (by decide))
          | inr x =>
            rw [hz] at n3
            obtain ⟨n4, n5, n6⟩ := n3
            have hng : nG β n (we β n (sp β n p)) 2 16 (fun p v => (p, m + 1, Int32.ofNat v, u, e)) = sG β n x.1 (fun p => (p, m + 1, Int32.ofNat x.2, u, e)) := by unfold nG; rw [hz]
            have gx : we β n (sp β n p) ≤ x.1 := by
              unfold nM at hz
              split at hz
              · cases hz
              · split at hz
                · cases hz
                · injection hz with hz
                  rw [← hz]
                  have : sp β n (we β n (sp β n p)) ≤ de β n (sp β n (we β n (sp β n p))) := rE_ge 501 _
                  dsimp only
                  omega
            have gs : x.1 ≤ sp β n x.1 := rE_ge 501 _
            rw [hng, es', n6]
            refine hs_mono (r_258 hn ob kr rβ ⟨n5, by rw [n1 12 3 t (by decide)]; exact h2.2.1, n4⟩ (fun d3 a b => lb _ _ _ _ d3 a b) (fun d3 a b c => ih k' (sp β n x.1 + 1) (m + 1) (Int32.ofNat x.2) e u d3 (by omega) (by omega) (by omega) a b)) (fun z hz _ => hz)
        · exact fun r _ hb' => absurd hb' hb
      · refine hs_ite (fun c2 => ?_) (fun c2 => ?_)
        · refine hs_mono (P := fun r => m / 4 % 2 = 0 → RF t δ (match nG β n (we β n (sp β n p)) 1 5 (fun p v => (p, m + 4, w, u, Int32.ofNat v)) with | .inl e => .inl e | .inr y => rZ β n k' y) r) ?_ (fun r hr => Or.inr (Or.inl ⟨c2, hr⟩))
          by_cases hb : m / 4 % 2 = 0
          · have es' : s = Int32.ofNat (m + 4) := by rw [es, c2]; exact o4 hb
            refine hs_bind (rD_num hn (by decide) ob (lo := 1) (hi := 5) rfl rfl h2.1 h2.2.1 h2.2.2) (fun r hr => ?_)
            obtain ⟨n1, n2, n3⟩ := hr
            rw [dβ2] at n3
            have kr : kp [(12, 4), (12, 5), (12, 6)] δ r.2 := kp_w (by decide) (kp_t kd2 n1)
            have rβ : q_R r.2 bt = β := by rw [n2]; exact dβ2
            cases hz : nM β n (we β n (sp β n p)) 1 5 with
            | inl q =>
              rw [hz] at n3
              have hng : nG β n (we β n (sp β n p)) 1 5 (fun p v => (p, m + 4, w, u, Int32.ofNat v)) = .inl q := by unfold nG; rw [hz]
              have q4 : q ≤ 4 := by
                unfold nM at hz
                split at hz
                · injection hz with hz; omega
                · split at hz
                  · injection hz with hz; omega
                  · cases hz
              unfold J_X12_shape_258
              refine hs_bind (r_signb n3.1) (fun r2 e2 => ?_)
              rw [e2, hng]
              exact hs_mono (rl_bad q4 mf _ _ _ _ r.2 n3.1 n3.2) (fun z hz _ => hz.k kr (by decide) (by decide) (by decide) (by decide))
            | inr x =>
              rw [hz] at n3
              obtain ⟨n4, n5, n6⟩ := n3
              have hng : nG β n (we β n (sp β n p)) 1 5 (fun p v => (p, m + 4, w, u, Int32.ofNat v)) = sG β n x.1 (fun p => (p, m + 4, w, u, Int32.ofNat x.2)) := by unfold nG; rw [hz]
              have gx : we β n (sp β n p) ≤ x.1 := by
                unfold nM at hz
                split at hz
                · cases hz
                · split at hz
                  · cases hz
                  · injection hz with hz
                    rw [← hz]
                    have : sp β n (we β n (sp β n p)) ≤ de β n (sp β n (we β n (sp β n p))) := rE_ge 501 _
                    dsimp only
                    omega
              have gs : x.1 ≤ sp β n x.1 := rE_ge 501 _
              rw [hng, es', n6]
              refine hs_mono (r_258 hn ob kr rβ ⟨n5, by rw [n1 12 3 t (by decide)]; exact h2.2.1, n4⟩ (fun d3 a b => lb _ _ _ _ d3 a b) (fun d3 a b c => ih k' (sp β n x.1 + 1) (m + 4) w (Int32.ofNat x.2) u d3 (by omega) (by omega) (by omega) a b)) (fun z hz _ => hz)
          · exact fun r _ hb' => absurd hb' hb
        · refine hs_mono (P := fun r => its = 2 → m / 2 % 2 = 0 → RF t δ (match uG β n (sp β n (we β n (sp β n p))) (we β n (sp β n (we β n (sp β n p)))) (fun p u' => (p, m + 2, w, u', e)) with | .inl e => .inl e | .inr y => rZ β n k' y) r) ?_ (fun r hr => Or.inr (Or.inr ⟨c1, c2, hr⟩))
          by_cases hb : its = 2 ∧ m / 2 % 2 = 0
          · have es' : s = Int32.ofNat (m + 2) := by rw [es, hb.1]; exact o2 hb.2
            have W2 : ∀ d3 q0, q_R d3 bt = β → RS t n q0 d3 → (q0 = we β n (sp β n p) ∨ q0 = sp β n (we β n (sp β n p))) → hs (D_X12_word N g t d3) (fun q => kp [(12, 4)] d3 q.2 ∧ q_R q.2 bt = β ∧ RS t n (sp β n (we β n (sp β n p))) q.2 ∧ ∀ k, k < 16 → (q.1 = ofg k 0 (tx_n k) 0 ∧ wI β (sp β n (we β n (sp β n p))) (we β n (sp β n (we β n (sp β n p)))) k ∨ ¬ q.1 = ofg k 0 (tx_n k) 0 ∧ ¬ wI β (sp β n (we β n (sp β n p))) (we β n (sp β n (we β n (sp β n p)))) k)) := by
              intro d3 q0 hd3 hs3 hq0
              have e0 : sp β n q0 = sp β n (we β n (sp β n p)) := by
                rcases hq0 with rfl | rfl
                · rfl
                · exact sp_sp hn
              refine hs_mono (rD_word hn (by rcases hq0 with rfl | rfl <;> omega) ob hs3.1 hs3.2.1) (fun q hq => ?_)
              obtain ⟨q1, q2, q3, q4⟩ := hq
              rw [hd3, e0] at q3 q4
              exact ⟨q1, by rw [q2]; exact hd3, hs3.k q1 q3, q4⟩
            -- behind the value
            have fin : ∀ (u' : Int32) (d3 : dp), kp [(12, 4)] δ d3 → q_R d3 bt = β → RS t n (sp β n (we β n (sp β n p))) d3 → hs (J_X12_shape_247 N g t x1 (L_X12_shape_49 N g t x1 mf) w e u' s d3) (fun r => RF t δ (match sG β n (we β n (sp β n (we β n (sp β n p)))) (fun p => (p, m + 2, w, u', e)) with | .inl e => .inl e | .inr y => rZ β n k' y) r) := by
              intro u' d3 k3 hd3 hs3
              unfold J_X12_shape_247
              refine hs_bind r_fine (fun r hr => ?_)
              obtain ⟨f1, f2⟩ := hr
              rw [f1]
              refine hs_ite (fun c => ?_) (fun _ => ?_)
              · rcases f2 with ⟨a, _⟩ | ⟨_, b⟩
                · rw [a] at c; exact absurd c (by decide)
                · exact absurd hs3.2.2 b
              unfold D_X12_pass
              refine hs_bind (rl_pass hn ob N _ d3 hs3.1 hs3.2.1) (fun d4 hd4 => ?_)
              obtain ⟨a1, a2, a3⟩ := hd4
              rw [hd3] at a3
              have gs : we β n (sp β n (we β n (sp β n p))) ≤ sp β n (we β n (sp β n (we β n (sp β n p)))) := rE_ge 501 _
              rw [es']
              exact r_258 hn ob (kp_w (by decide) (kp_t k3 a1)) (by rw [a2]; exact hd3) (hs3.k a1 a3) (fun d5 a b => lb _ _ _ _ d5 a b) (fun d5 a b c => ih k' _ (m + 2) w e u' d5 (by omega) (by omega) (by omega) a b)
            refine hs_bind (W2 d2 _ dβ2 h2 (Or.inl rfl)) (fun r53 h53 => ?_)
            obtain ⟨v1, v2, v3, v4⟩ := h53
            have kv : kp [(12, 4)] δ r53.2 := kp_w (by decide) (kp_t kd2 v1)
            refine hs_at (e_of' hN (i := 3) (by decide)) ?_
            dsimp only
            refine hs_ite (fun c3 => ?_) (fun c3 => ?_)
            · rcases v4 3 (by decide) with ⟨_, wi⟩ | ⟨a, _⟩
              · unfold J_X12_shape_219
                refine hs_ite (fun z => absurd z (by decide)) (fun _ => ?_)
                refine hs_mono (fin 1 r53.2 kv v2 v3) (fun r hr _ _ => ?_)
                unfold uG
                rw [if_pos (wB_t wi)]
                exact hr
              · exact absurd c3 a
            · rcases v4 3 (by decide) with ⟨a, _⟩ | ⟨_, wn⟩
              · exact absurd a c3
              unfold J_X12_shape_219
              refine hs_ite (fun _ => ?_) (fun z => absurd rfl z)
              refine hs_bind (W2 r53.2 _ v2 v3 (Or.inr rfl)) (fun r61 h61 => ?_)
              obtain ⟨y1, y2, y3, y4⟩ := h61
              have ky : kp [(12, 4)] δ r61.2 := kp_w (by decide) (kp_t kv y1)
              refine hs_at (e_of' hN (i := 4) (by decide)) ?_
              dsimp only
              refine hs_ite (fun c4 => ?_) (fun c4 => ?_)
              · rcases y4 4 (by decide) with ⟨_, wi⟩ | ⟨a, _⟩
                · refine hs_mono (fin 0 r61.2 ky y2 y3) (fun r hr _ _ => ?_)
                  unfold uG
                  rw [if_neg (wB_f wn), if_pos (wB_t wi)]
                  exact hr
                · exact absurd c4 a
              · rcases y4 4 (by decide) with ⟨a, _⟩ | ⟨_, wn4⟩
                · exact absurd a c4
                refine hs_bind (r_wrong y3.2.2) (fun q hq => ?_)
                obtain ⟨q1, q2, q3, q4⟩ := hq
                have q5 : 0 ≤ (q_I q 12 5 t).toInt := by rw [q3, y3.1]; omega
                have zm : (-1 : Int32).toInt = -1 := rfl
                unfold J_X12_shape_247
                refine hs_bind r_fine (fun r hr => ?_)
                obtain ⟨f1, f2⟩ := hr
                rw [f1]
                refine hs_ite (fun _ => ?_) (fun c => ?_)
                · unfold J_X12_shape_258
                  refine hs_bind (r_signb q5) (fun r2 e2 => ?_)
                  rw [e2]
                  refine hs_mono (lb _ _ _ _ q q5 (by rw [q4]; rfl)) (fun z hz _ _ => ?_)
                  unfold uG
                  rw [if_neg (wB_f wn), if_neg (wB_f wn4)]
                  exact hz.k (kp_t ky q1) (by decide) (by decide) (by decide) (by decide)
                · rcases f2 with ⟨_, b⟩ | ⟨a, _⟩
                  · have := o_eq b; omega
                  · exact absurd a c
          · exact fun r _ h1 h2 => absurd ⟨h1, h2⟩ hb
    -- which clause
    have z1 : (1 : Int32) ≠ 0 ∧ (2 : Int32) ≠ 0 ∧ (4 : Int32) ≠ 0 ∧ (2 : Int32) ≠ 1 ∧ (2 : Int32) ≠ 4 ∧ (4 : Int32) ≠ 1 ∧ (1 : Int32) ≠ 4 := by decide
    refine hs_bind (W r.2 dβ hr2) (fun r35 h35 => ?_)
    obtain ⟨w1, w2, w3, w4⟩ := h35
    have k35 : kp [(12, 4)] δ r35.2 := kp_w (by decide) (kp_t d1 w1)
    refine hs_at (e_of' hN (i := 0) (by decide)) ?_
    dsimp only
    unfold cZ
    refine hs_ite (fun c => ?_) (fun c => ?_)
    · rcases w4 0 (by decide) with ⟨_, wi⟩ | ⟨a, _⟩
      · rw [if_pos (wB_t wi)]
        unfold J_X12_shape_112
        refine hs_ite (fun z => absurd z z1.1) (fun _ => ?_)
        refine hs_ite (fun z => ?_) (fun z => ?_)
        · have hb := b1.mp z
          rw [if_neg (by omega)]
          refine hs_mono (val 1 r35.2 k35 w2 w3) (fun q hq => ?_)
          rcases hq with ⟨_, hq⟩ | ⟨hq, _⟩ | ⟨hq, _⟩
          · exact hq hb
          · exact absurd hq z1.2.2.2.2.2.2
          · exact absurd rfl hq
        · have hb : m % 2 = 1 := by
            rcases Nat.mod_two_eq_zero_or_one m with q | q
            · exact absurd (b1.mpr q) z
            · exact q
          rw [if_pos hb]
          exact bad 4 4 _ _ _ _ _ r35.2 rfl (by decide) k35 w3
      · exact absurd c a
    · rcases w4 0 (by decide) with ⟨a, _⟩ | ⟨_, wn0⟩
      · exact absurd a c
      rw [if_neg (wB_f wn0)]
      refine hs_bind (W r35.2 w2 w3) (fun r38 h38 => ?_)
      obtain ⟨x1', x2', x3', x4'⟩ := h38
      have k38 : kp [(12, 4)] δ r38.2 := kp_w (by decide) (kp_t k35 x1')
      refine hs_at (e_of' hN (i := 1) (by decide)) ?_
      dsimp only
      refine hs_ite (fun c => ?_) (fun c => ?_)
      · rcases x4' 1 (by decide) with ⟨_, wi⟩ | ⟨a, _⟩
        · rw [if_pos (wB_t wi)]
          unfold J_X12_shape_112
          refine hs_ite (fun z => absurd z z1.2.1) (fun _ => ?_)
          refine hs_ite (fun z => ?_) (fun z => ?_)
          · have hb := b2.mp z
            rw [if_neg (by omega)]
            refine hs_mono (val 2 r38.2 k38 x2' x3') (fun q hq => ?_)
            rcases hq with ⟨hq, _⟩ | ⟨hq, _⟩ | ⟨_, _, hq⟩
            · exact absurd hq z1.2.2.2.1
            · exact absurd hq z1.2.2.2.2.1
            · exact hq rfl hb
          · have hb : m / 2 % 2 = 1 := by
              rcases Nat.mod_two_eq_zero_or_one (m / 2) with q | q
              · exact absurd (b2.mpr q) z
              · exact q
            rw [if_pos hb]
            exact bad 4 4 _ _ _ _ _ r38.2 rfl (by decide) k38 x3'
        · exact absurd c a
      · rcases x4' 1 (by decide) with ⟨a, _⟩ | ⟨_, wn1⟩
        · exact absurd a c
        rw [if_neg (wB_f wn1)]
        refine hs_bind (W r38.2 x2' x3') (fun r41 h41 => ?_)
        obtain ⟨y1', y2', y3', y4'⟩ := h41
        have k41 : kp [(12, 4)] δ r41.2 := kp_w (by decide) (kp_t k38 y1')
        refine hs_at (e_of' hN (i := 2) (by decide)) ?_
        dsimp only
        refine hs_ite (fun c => ?_) (fun c => ?_)
        · rcases y4' 2 (by decide) with ⟨_, wi⟩ | ⟨a, _⟩
          · rw [if_pos (wB_t wi)]
            unfold J_X12_shape_112
            refine hs_ite (fun z => absurd z z1.2.2.1) (fun _ => ?_)
            refine hs_ite (fun z => ?_) (fun z => ?_)
            · have hb := b4.mp z
              rw [if_neg (by omega)]
              refine hs_mono (val 4 r41.2 k41 y2' y3') (fun q hq => ?_)
              rcases hq with ⟨hq, _⟩ | ⟨_, hq⟩ | ⟨_, hq, _⟩
              · exact absurd hq z1.2.2.2.2.2.1
              · exact hq hb
              · exact absurd rfl hq
            · have hb : m / 4 % 2 = 1 := by
                rcases Nat.mod_two_eq_zero_or_one (m / 4) with q | q
                · exact absurd (b4.mpr q) z
                · exact q
              rw [if_pos hb]
              exact bad 4 4 _ _ _ _ _ r41.2 rfl (by decide) k41 y3'
          · exact absurd c a
        · rcases y4' 2 (by decide) with ⟨a, _⟩ | ⟨_, wn2⟩
          · exact absurd a c
          rw [if_neg (wB_f wn2)]
          unfold J_X12_shape_112
          refine hs_ite (fun _ => ?_) (fun z => absurd rfl z)
          exact bad 1 1 _ _ _ _ _ r41.2 rfl (by decide) k41 y3'
