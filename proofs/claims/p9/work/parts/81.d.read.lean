/-! a SHAPE's text read by the class -/
theorem h6_told {s t bt bo n : Nat} {δ d : dp} {p m : Nat} {w u e : Int32} {c : Nat} (hc : CS s t bo n (p, m, w, u, e) δ) (hp : (q_I δ 7 3 t).toInt = (p : Int)) (c2 : c = 0 ∧ m % 2 = 0 ∨ c = 1 ∧ m / 2 % 2 = 0 ∨ c = 2 ∧ m / 4 % 2 = 0) (ed : d = s_R δ bo c 1) : CS s t bo n (p, m + (if c = 0 then 1 else if c = 1 then 2 else 4), w, u, e) d := by
  obtain ⟨c1, c2', c3, c4, c5, c6, c7, c8, c9, c10⟩ := hc
  dsimp only at c1 c4 c5 c6 c7 c8 c9 c10
  have R : ∀ i, q_R d bo i = if i = c then 1 else q_R δ bo i := by
    intro i
    rw [ed, qR_sR]
    by_cases z : i = c
    · rw [if_pos ⟨rfl, z⟩, if_pos z]
    · rw [if_neg (fun y => z y.2), if_neg z]
  have e1 : (1 : Int32).toInt = 1 := rfl
  have I : q_I d = q_I δ := by rw [ed]; rfl
  refine ⟨by rw [I]; exact c1, by rw [I]; exact c2', by rw [I]; exact c3, ?_, ?_, ?_, ?_, by rw [I]; exact c8, by rw [I]; exact c9, by rw [I]; exact c10⟩
  · rw [R]
    rcases c2 with ⟨rfl, h⟩ | ⟨rfl, h⟩ | ⟨rfl, h⟩
    · simp; omega
    · simp; omega
    · simp; omega
  · rw [R]
    rcases c2 with ⟨rfl, h⟩ | ⟨rfl, h⟩ | ⟨rfl, h⟩
    · simp; omega
    · simp; omega
    · simp; omega
  · rw [R]
    rcases c2 with ⟨rfl, h⟩ | ⟨rfl, h⟩ | ⟨rfl, h⟩
    · simp; omega
    · simp; omega
    · simp; omega
  · rcases c2 with ⟨rfl, h⟩ | ⟨rfl, h⟩ | ⟨rfl, h⟩
    · simp; omega
    · simp; omega
    · simp; omega
set_option maxHeartbeats 4000000 in
theorem h6_clause {N : Nat} {g : gp} {s t bt bo n : Nat} (hn : n ≤ 500) (ob : q_O g 7 0 t = some bt) (oo : q_O g 6 3 s = some bo) (nb : bt ≠ bo) {δ : dp} {p m : Nat} {w u e : Int32} (hp : p ≤ n) (hc : CS s t bo n (p, m, w, u, e) δ) : hs (D_X6_readClause N g s t δ) (fun r => CF s t bt bo δ r ∧ CR s t bo n (cZ (q_R δ bt) n (sp (q_R δ bt) n p) (we (q_R δ bt) n (sp (q_R δ bt) n p)) m w u e) r) := by
  have hc0 := hc
  obtain ⟨c1, c2, c3, c4, c5, c6, c7, c8, c9, c10⟩ := hc
  dsimp only at c1 c4 c5 c6 c7 c8 c9 c10
  have l1 : sp (q_R δ bt) n p ≤ n := rE_le 501 p hp
  have l2 : we (q_R δ bt) n (sp (q_R δ bt) n p) ≤ n := rE_le 501 _ l1
  unfold D_X6_readClause
  refine hs_bind (hD_readWord hn ob c1 c2) (fun d hr => ?_)
  obtain ⟨k1, k2, k3, k4⟩ := hr
  have hcd : CS s t bo n (we (q_R δ bt) n (sp (q_R δ bt) n p), m, w, u, e) d := ⟨k4, by rw [k1 7 2 t (by decide)]; exact c2, by rw [k1 7 5 t (by decide)]; exact c3, by rw [k2]; exact c4, by rw [k2]; exact c5, by rw [k2]; exact c6, c7, by rw [k1 6 0 s (by decide)]; exact c8, by rw [k1 6 1 s (by decide)]; exact c9, by rw [k1 6 2 s (by decide)]; exact c10⟩
  have cfd : CF s t bt bo δ d := ⟨kp_w (by decide) k1, fun b _ => by rw [k2]⟩
  have cft : ∀ r, CF s t bt bo d r → CF s t bt bo δ r := fun r a => ⟨kp_w (by decide) (kp_t cfd.1 a.1), fun b hb => (a.2 b hb).trans (cfd.2 b hb)⟩
  have d5 : q_I d 7 5 t = 0 := hcd.2.2.1
  have bad : ∀ k : Int32, k.toInt = 1 ∨ k.toInt = 4 → hs ((D_X7_refuse N g t k d).bind fun r_19 => J_X6_readClause_94 N g s t r_19) (fun r => CF s t bt bo δ r ∧ (q_I r 7 5 t).toInt = k.toInt) := by
    intro k hk
    refine hs_bind hD_refuse (fun r hr => ?_)
    unfold J_X6_readClause_94
    refine hs_some ⟨cft _ ⟨kp_w (by decide) hr.1, fun b _ => by rw [hr.2.1]⟩, ?_⟩
    rw [hr.2.2, d5, if_pos rfl]
  -- a clause that was told or not
  have go : ∀ (x : Int32) (c : Nat), x.toInt = (c : Int) → c < 3 → (q_R d bo c).toInt = 1 ∧ hs (J_X6_readClause_44 N g s t x d) (fun r => CF s t bt bo δ r ∧ (q_I r 7 5 t).toInt = 4) ∨ (q_R d bo c).toInt = 0 ∧ ∀ Q : dp → Prop, (∀ d', d' = s_R d bo c 1 → hs ((D_X6_readValue N g s t x d').bind fun r_16 => (D_X7_needSign N g t 59 r_16).bind fun r_17 => some r_17) Q) → hs (J_X6_readClause_44 N g s t x d) Q := by
    intro x c hx hc3
    have tx := ti_tn x
    have ix : x.toNatClampNeg = c := by omega
    have z1 : (-1 : Int32).toInt = -1 := rfl
    have z0 : (0 : Int32).toInt = 0 := rfl
    have hv : (q_R d bo c).toInt = 0 ∨ (q_R d bo c).toInt = 1 := by
      obtain ⟨_, _, _, q4, q5, q6, _⟩ := hcd
      dsimp only at q4 q5 q6
      rcases (show c = 0 ∨ c = 1 ∨ c = 2 by omega) with rfl | rfl | rfl <;> omega
    rcases hv with hv | hv
    · refine Or.inr ⟨hv, fun Q hQ => ?_⟩
      unfold J_X6_readClause_44
      refine hs_ite (fun z => by have := o_eq z; omega) (fun _ => ?_)
      refine hs_at oo (hs_gd (fun _ => ?_))
      rw [ix]
      refine hs_ite (fun _ => ?_) (fun z => by have := o_ne z; omega)
      refine hs_at oo (hs_gd (fun _ => ?_))
      refine hs_bdv (fun d' e' => ?_)
      have := hQ d' (by rw [e']; rfl)
      unfold J_X6_readClause_94
      exact this
    · refine Or.inl ⟨hv, ?_⟩
      unfold J_X6_readClause_44
      refine hs_ite (fun z => by have := o_eq z; omega) (fun _ => ?_)
      refine hs_at oo (hs_gd (fun _ => ?_))
      rw [ix]
      refine hs_ite (fun z => by have := o_eq z; omega) (fun _ => ?_)
      exact bad 4 (Or.inr rfl)
  have t0 := hcd.2.2.2.1
  have t1 := hcd.2.2.2.2.1
  have t2 := hcd.2.2.2.2.2.1
  dsimp only at t0 t1 t2
  have dbt : ∀ d' c, d' = s_R d bo c 1 → q_R d' bt = q_R δ bt := fun d' c e' => by rw [e', rR_o nb, k2]
  have cfw : ∀ d' c, d' = s_R d bo c 1 → ∀ r, CF s t bt bo d' r → CF s t bt bo δ r := fun d' c e' r a => cft r ⟨by
      have := a.1
      intro c1 k1 a1 h
      rw [this c1 k1 a1 h, e']; rfl, fun b hb => (a.2 b hb).trans (by rw [e', rR_o hb])⟩
  refine hs_bind (hD_wordIs (k := 0) (by decide) ob (by omega) (by omega) k3 k4) (fun r2 hr2 => ?_)
  obtain ⟨j1, j2⟩ := hr2
  rw [k2] at j2
  rw [j1]
  unfold cZ
  refine hs_ite (fun cc => ?_) (fun cc => ?_)
  · rcases j2 with ⟨a, b⟩ | ⟨_, w0⟩
    · rw [a] at cc; exact absurd cc (by decide)
    rw [if_neg (wB_f w0)]
    refine hs_bind (hD_wordIs (k := 1) (by decide) ob (by omega) (by omega) k3 k4) (fun r4 hr4 => ?_)
    obtain ⟨j3, j4⟩ := hr4
    rw [k2] at j4
    rw [j3]
    refine hs_ite (fun cc => ?_) (fun cc => ?_)
    · rcases j4 with ⟨a, b⟩ | ⟨_, w1⟩
      · rw [a] at cc; exact absurd cc (by decide)
      rw [if_neg (wB_f w1)]
      refine hs_bind (hD_wordIs (k := 2) (by decide) ob (by omega) (by omega) k3 k4) (fun r6 hr6 => ?_)
      obtain ⟨j5, j6⟩ := hr6
      rw [k2] at j6
      rw [j5]
      refine hs_ite (fun cc => ?_) (fun cc => ?_)
      · rcases j6 with ⟨a, b⟩ | ⟨_, w2⟩
        · rw [a] at cc; exact absurd cc (by decide)
        rw [if_neg (wB_f w2)]
        unfold J_X6_readClause_44
        refine hs_ite (fun _ => ?_) (fun z => absurd rfl z)
        exact hs_mono (bad 1 (Or.inl rfl)) (fun r hr => ⟨hr.1, hr.2, by decide⟩)
      · rcases j6 with ⟨_, w2⟩ | ⟨a, b⟩
        · rw [if_pos (wB_t w2)]
          rcases go 2 2 rfl (by decide) with ⟨v, G⟩ | ⟨v, G⟩
          · rw [if_pos (by omega)]
            exact hs_mono G (fun r hr => ⟨hr.1, hr.2, by decide⟩)
          · rw [if_neg (by omega)]
            refine G _ (fun d' e' => ?_)
            have hc' := h6_told (bt := bt) (c := 2) hcd k4 (by omega) e'
            have := h6_num (N := N) (g := g) (bt := bt) hn ob (K := 2) (lo := 1) (hi := 5) (Or.inr rfl) (by decide) (xl := 1) (xh := 5) rfl rfl (f := fun p v => (p, m + 4, w, u, Int32.ofNat v)) (fun p v => rfl) hc'
            rw [dbt d' 2 e'] at this
            unfold D_X6_readValue J_X6_readValue_71
            rw [if_neg (show ¬ (2 : Int32) = 0 by decide), if_pos (show (2 : Int32) = 2 from rfl), Option.bind_assoc]
            exact hs_mono this (fun r hr => ⟨cfw d' 2 e' r hr.1, hr.2⟩)
        · exact absurd a cc
    · rcases j4 with ⟨_, w1⟩ | ⟨a, b⟩
      · rw [if_pos (wB_t w1)]
        rcases go 1 1 rfl (by decide) with ⟨v, G⟩ | ⟨v, G⟩
        · rw [if_pos (by omega)]
          exact hs_mono G (fun r hr => ⟨hr.1, hr.2, by decide⟩)
        · rw [if_neg (by omega)]
          refine G _ (fun d' e' => ?_)
          have hc' := h6_told (bt := bt) (c := 1) hcd k4 (by omega) e'
          have := h6_up (N := N) (bt := bt) hn ob l2 hc'
          rw [dbt d' 1 e'] at this
          exact hs_mono this (fun r hr => ⟨cfw d' 1 e' r hr.1, hr.2⟩)
      · exact absurd a cc
  · rcases j2 with ⟨_, w0⟩ | ⟨a, b⟩
    · rw [if_pos (wB_t w0)]
      rcases go 0 0 rfl (by decide) with ⟨v, G⟩ | ⟨v, G⟩
      · rw [if_pos (by omega)]
        exact hs_mono G (fun r hr => ⟨hr.1, hr.2, by decide⟩)
      · rw [if_neg (by omega)]
        refine G _ (fun d' e' => ?_)
        have hc' := h6_told (bt := bt) (c := 0) hcd k4 (by omega) e'
        have := h6_num (N := N) (g := g) (bt := bt) hn ob (K := 0) (lo := 2) (hi := 16) (Or.inl rfl) (by decide) (xl := 2) (xh := 16) rfl rfl (f := fun p v => (p, m + 1, Int32.ofNat v, u, e)) (fun p v => rfl) hc'
        rw [dbt d' 0 e'] at this
        unfold D_X6_readValue J_X6_readValue_71
        rw [if_pos (show (0 : Int32) = 0 from rfl), Option.bind_assoc]
        exact hs_mono this (fun r hr => ⟨cfw d' 0 e' r hr.1, hr.2⟩)
    · exact absurd a cc
/-- all clauses -/
def rZ (β : Nat → Int32) (n : Nat) : Nat → PS → Nat ⊕ PS
  | 0, x => .inr x
  | k + 1, x => if sp β n x.1 < n then (match cZ β n (sp β n x.1) (we β n (sp β n x.1)) x.2.1 x.2.2.1 x.2.2.2.1 x.2.2.2.2 with | .inl e => .inl e | .inr y => rZ β n k y) else .inr x
theorem sG_p {β : Nat → Int32} {n q : Nat} {f : Nat → PS} (hf : ∀ p, (f p).1 = p) {y : PS} (h : sG β n q f = .inr y) : q < y.1 ∧ y.1 ≤ n := by
  unfold sG at h
  split at h
  · rename_i c
    injection h with h
    rw [← h, hf]
    have : q ≤ sp β n q := rE_ge 501 q
    omega
  · cases h
theorem nG_p {β : Nat → Int32} {n q lo hi : Nat} {f : Nat → Nat → PS} (hf : ∀ p v, (f p v).1 = p) {y : PS} (h : nG β n q lo hi f = .inr y) : q < y.1 ∧ y.1 ≤ n := by
  unfold nG nM at h
  split at h
  · cases h
  · rename_i x hx
    split at hx
    · cases hx
    · split at hx
      · cases hx
      · injection hx with hx
        have := sG_p (fun p => hf p _) h
        rw [← hx] at this
        have a : q ≤ sp β n q := rE_ge 501 q
        have b : sp β n q ≤ de β n (sp β n q) := rE_ge 501 _
        dsimp only at this
        omega
theorem cZ_p {β : Nat → Int32} {n p1 q m : Nat} {w u e : Int32} {y : PS} (h : cZ β n p1 q m w u e = .inr y) : q < y.1 ∧ y.1 ≤ n := by
  unfold cZ at h
  split at h
  · split at h
    · cases h
    · exact nG_p (fun _ _ => rfl) h
  · split at h
    · split at h
      · cases h
      · unfold uG at h
        have a : q ≤ sp β n q := rE_ge 501 q
        have b : sp β n q ≤ we β n (sp β n q) := rE_ge 501 _
        split at h
        · have := sG_p (fun _ => rfl) h; omega
        · split at h
          · have := sG_p (fun _ => rfl) h; omega
          · cases h
    · split at h
      · split at h
        · cases h
        · exact nG_p (fun _ _ => rfl) h
      · cases h
theorem sp_sp {β : Nat → Int32} {n p : Nat} (hn : n ≤ 500) : sp β n (sp β n p) = sp β n p := rE_i (by omega) (rE_out 501 p (by omega))
/-- what the class has read at the end -/
def CE (s t : Nat) (o : Nat ⊕ PS) (r : dp) : Prop := match o with
  | .inl k => (q_I r 7 5 t).toInt = (k : Int) ∧ k ≠ 0
  | .inr x => q_I r 7 5 t = 0 ∧ q_I r 6 0 s = x.2.2.1 ∧ q_I r 6 1 s = x.2.2.2.1 ∧ q_I r 6 2 s = x.2.2.2.2
set_option maxHeartbeats 4000000 in
theorem h6_loop {N : Nat} {g : gp} {s t bt bo n : Nat} (hn : n ≤ 500) (ob : q_O g 7 0 t = some bt) (oo : q_O g 6 3 s = some bo) (nb : bt ≠ bo) {β : Nat → Int32} (hβ : ∀ j, j < n → 0 ≤ (β j).toInt) : ∀ (mf k i : Nat) (xv : Int32) (x : PS) (δ : dp), xv.toInt = (i : Int) → i ≤ x.1 → x.1 ≤ n → n - x.1 < k → q_R δ bt = β → CS s t bo n x δ → hs (L_X6_read_38 N g s t mf xv δ) (fun r => CE s t (rZ β n k x) r) := by
  intro mf
  induction mf with
  | zero => intro k i xv x δ _ _ _ _ _ _; exact hs_none
  | succ mf ih =>
    intro k i xv x δ hx hi hp hk hb hc
    obtain ⟨p, m, w, u, e⟩ := x
    dsimp only at hi hp hk
    have hc0 := hc
    obtain ⟨c1, c2, c3, c4, c5, c6, c7, c8, c9, c10⟩ := hc
    dsimp only at c1 c4 c5 c6 c7 c8 c9 c10
    obtain ⟨k', rfl⟩ : ∃ k', k = k' + 1 := ⟨k - 1, by omega⟩
    have e500 : (500 : Int32).toInt = 500 := rfl
    have gp : p ≤ sp β n p := rE_ge 501 p
    have done : ¬ sp β n p < n → ∀ r, q_I r 7 5 t = 0 → q_I r 6 0 s = w → q_I r 6 1 s = u → q_I r 6 2 s = e → CE s t (rZ β n (k' + 1) (p, m, w, u, e)) r := by
      intro z r a1 a2 a3 a4
      unfold rZ
      rw [if_neg z]
      exact ⟨a1, a2, a3, a4⟩
    unfold L_X6_read_38 J_X6_read_71
    refine hs_ite (fun c => ?_) (fun c => ?_)
    · have c' := o_le c
      exact hs_some (done (by omega) _ c3 c8 c9 c10)
    · have c' := o_nle c
      refine hs_bind (P := fun r => r.2 = δ ∧ r.1 = 1) ?_ (fun r hr => ?_)
      · unfold D_X7_isSound J_X7_isSound_12
        refine hs_ite (fun _ => hs_gp (fun _ => hs_some ⟨rfl, rfl⟩)) (fun z => absurd c3 z)
      · obtain ⟨r1, r2⟩ := hr
        rw [r1, r2]
        refine hs_ite (fun z => absurd z (by decide)) (fun _ => ?_)
        unfold D_X7_ahead
        refine hs_bind (h7_ahead hn ob N p δ c1 c2) (fun d hd => ?_)
        obtain ⟨k1, k2, k3, k4, k5⟩ := hd
        rw [hb] at k3 k5
        have d6 : ∀ q, q_I d.2 6 q s = q_I δ 6 q s := fun q => k1 6 q s (by simp)
        refine hs_ite (fun z => ?_) (fun z => ?_)
        · refine hs_some (done (fun y => ?_) _ (by rw [k1 7 5 t (by decide)]; exact c3) (by rw [d6]; exact c8) (by rw [d6]; exact c9) (by rw [d6]; exact c10))
          rw [k5, if_pos y] at z
          have z1 := o_eq z
          have z2 := hβ _ y
          have z3 : (-1 : Int32).toInt = -1 := rfl
          omega
        · have y : sp β n p < n := by
            by_cases y : sp β n p < n
            · exact y
            · rw [k5, if_neg y] at z
              exact absurd rfl z
          have hcd : CS s t bo n (sp β n p, m, w, u, e) d.2 := ⟨k3, by rw [k1 7 2 t (by decide)]; exact c2, by rw [k1 7 5 t (by decide)]; exact c3, by rw [k2]; exact c4, by rw [k2]; exact c5, by rw [k2]; exact c6, c7, by rw [d6]; exact c8, by rw [d6]; exact c9, by rw [d6]; exact c10⟩
          refine hs_bind (h6_clause hn ob oo nb (by omega) hcd) (fun r3 hr3 => ?_)
          obtain ⟨f1, f2⟩ := hr3
          rw [k2, hb, sp_sp hn] at f2
          refine hs_biv (fun y2 ey => ?_)
          have y1 := te_addc (c := 1) (n := 1) rfl xv (by omega) (by omega)
          rw [← ey] at y1
          have gw : sp β n p ≤ we β n (sp β n p) := rE_ge 501 _
          cases hz : cZ β n (sp β n p) (we β n (sp β n p)) m w u e with
          | inl q =>
            rw [hz] at f2
            obtain ⟨f3, f4⟩ := f2
            have er : rZ β n (k' + 1) (p, m, w, u, e) = .inl q := by
              unfold rZ
              rw [if_pos y]
              dsimp only
              rw [hz]
            rw [er]
            -- the loop ends at once
            cases mf with
            | zero => exact hs_none
            | succ mf =>
              unfold L_X6_read_38 J_X6_read_71
              refine hs_ite (fun _ => hs_some ⟨f3, f4⟩) (fun _ => ?_)
              refine hs_bind (P := fun r => r.2 = r3 ∧ r.1 = 0) ?_ (fun r4 hr4 => ?_)
              · unfold D_X7_isSound J_X7_isSound_12
                refine hs_ite (fun z => ?_) (fun _ => hs_gp (fun _ => hs_some ⟨rfl, rfl⟩))
                have z1 := o_eq z
                have z3 : (0 : Int32).toInt = 0 := rfl
                exfalso; omega
              · refine hs_ite (fun _ => hs_some ?_) (fun z => absurd hr4.2 z)
                rw [hr4.1]
                exact ⟨f3, f4⟩
          | inr x' =>
            rw [hz] at f2
            have gp' := cZ_p hz
            have er : rZ β n (k' + 1) (p, m, w, u, e) = rZ β n k' x' := by
              show (if sp β n p < n then _ else _) = _
              rw [if_pos y]
              dsimp only
              rw [hz]
            rw [er]
            exact ih k' (i + 1) y2 x' r3 (by omega) (by omega) gp'.2 (by omega) ((f1.2 bt nb).trans (by rw [k2, hb])) f2
set_option maxHeartbeats 4000000 in
theorem h6_zero {N : Nat} {g : gp} {s t bt bo n : Nat} (hn : n ≤ 500) (ob : q_O g 7 0 t = some bt) (oo : q_O g 6 3 s = some bo) (nb : bt ≠ bo) {β : Nat → Int32} (hβ : ∀ j, j < n → 0 ≤ (β j).toInt) : ∀ (mf i : Nat) (xv : Int32) (δ : dp), xv.toInt = (i : Int) → i ≤ 3 → (∀ j, j < i → (q_R δ bo j).toInt = 0) → q_R δ bt = β → (q_I δ 7 3 t).toInt = 0 → (q_I δ 7 2 t).toInt = (n : Int) → q_I δ 7 5 t = 0 → q_I δ 6 0 s = 8 → q_I δ 6 1 s = 1 → q_I δ 6 2 s = 1 → hs (L_X6_read_18 N g s t mf xv δ) (fun r => CE s t (rZ β n 501 (0, 0, 8, 1, 1)) r) := by
  intro mf
  induction mf with
  | zero => intro i xv δ _ _ _ _ _ _ _ _ _ _; exact hs_none
  | succ mf ih =>
    intro i xv δ hx hi hj hb c1 c2 c3 c8 c9 c10
    have e3 : (3 : Int32).toInt = 3 := rfl
    unfold L_X6_read_18
    refine hs_ite (fun c => ?_) (fun c => ?_)
    · have c' := o_le c
      exact h6_loop hn ob oo nb hβ N 501 0 0 (0, 0, 8, 1, 1) δ rfl (Nat.zero_le _) (Nat.zero_le _) (by dsimp only; omega) hb ⟨c1, c2, c3, by rw [hj 0 (by omega)]; rfl, by rw [hj 1 (by omega)]; rfl, by rw [hj 2 (by omega)]; rfl, by decide, c8, c9, c10⟩
    · have c' := o_nle c
      refine hs_at oo (hs_gd (fun _ => hs_bdv (fun d e => hs_biv (fun y ey => ?_))))
      have y1 := te_addc (c := 1) (n := 1) rfl xv (by omega) (by omega)
      rw [← ey] at y1
      have tx := ti_tn xv
      have I : q_I d = q_I δ := by rw [e]; rfl
      refine ih (i + 1) y d (by omega) (by omega) (fun j h => ?_) (by rw [e, rR_o nb]; exact hb) (by rw [I]; exact c1) (by rw [I]; exact c2) (by rw [I]; exact c3) (by rw [I]; exact c8) (by rw [I]; exact c9) (by rw [I]; exact c10)
      rw [e, qR_sR]
      by_cases z : j = xv.toNatClampNeg
      · rw [if_pos ⟨rfl, z⟩]; rfl
      · rw [if_neg (fun q => z q.2)]
        exact hj j (by omega)
/-- a SHAPE's text read by the class, as a function of its bytes -/
theorem hD_read6 {N : Nat} {g : gp} {s t bt bo n : Nat} (hn : n ≤ 500) (ob : q_O g 7 0 t = some bt) (oo : q_O g 6 3 s = some bo) (nb : bt ≠ bo) {δ : dp} (hβ : ∀ j, j < n → 0 ≤ (q_R δ bt j).toInt) (c1 : (q_I δ 7 3 t).toInt = 0) (c2 : (q_I δ 7 2 t).toInt = (n : Int)) (c3 : q_I δ 7 5 t = 0) : hs (D_X6_read N g s t δ) (fun r => CE s t (rZ (q_R δ bt) n 501 (0, 0, 8, 1, 1)) r) := by
  unfold D_X6_read
  refine hs_bdv (fun d1 e1 => hs_bdv (fun d2 e2 => hs_bdv (fun d3 e3 => ?_)))
  have R : q_R d3 = q_R δ := by rw [e3, e2, e1]; rfl
  have I : ∀ k, q_I d3 7 k t = q_I δ 7 k t := fun k => by rw [e3, rI_o (fun z => absurd z.1 (by decide)), e2, rI_o (fun z => absurd z.1 (by decide)), e1, rI_o (fun z => absurd z.1 (by decide))]
  exact h6_zero hn ob oo nb hβ N 0 0 d3 rfl (by omega) (fun j h => by omega) (by rw [R]) (by rw [I]; exact c1) (by rw [I]; exact c2) (by rw [I]; exact c3) (by rw [e3, rI_o (by decide), e2, rI_o (by decide), e1, rI_s]) (by rw [e3, rI_o (by decide), e2, rI_s]) (by rw [e3, rI_s])
