/-! calls at the reference's houses -/
def hN (ad : List Nat) (δ : dp) (h : Nat) : Int := (q_R δ (Ad ad 106) h).toInt
/-- the other houses are as they were -/
def hkeep (ad : List Nat) (δ δ1 : dp) (H : Nat) : Prop := ∀ K : Nat, K < 4 → K ≠ H → hM ad δ1 K = hM ad δ K ∧ hN ad δ1 K = hN ad δ K ∧ ∀ i, i < 2000 → hR ad δ1 K i = hR ad δ K i
theorem hkeep.r {ad : List Nat} {δ : dp} {H : Nat} : hkeep ad δ δ H := fun _ _ _ => ⟨rfl, rfl, fun _ _ => rfl⟩
theorem hkeep.t {ad : List Nat} {δ δ1 δ2 : dp} {H : Nat} (h : hkeep ad δ δ1 H) (k : hkeep ad δ1 δ2 H) : hkeep ad δ δ2 H := fun K a b => ⟨(k K a b).1.trans (h K a b).1, (k K a b).2.1.trans (h K a b).2.1, fun i hi => ((k K a b).2.2 i hi).trans ((h K a b).2.2 i hi)⟩
theorem hsr_k {ad : List Nat} {δ δ1 : dp} {K : Nat} (hm : hM ad δ1 K = hM ad δ K) (hb : hM ad δ K ≤ 2000) (hr : ∀ i, i < 2000 → hR ad δ1 K i = hR ad δ K i) (S : hsr ad δ K) : hsr ad δ1 K := ⟨by rw [hm]; exact S.1, fun i j hij hj => by
  rw [hm] at hj
  rw [hr i (by omega), hr j (by omega)]
  exact S.2 i j hij hj⟩
theorem hmem_k {ad : List Nat} {δ δ1 : dp} {K : Nat} (hm : hM ad δ1 K = hM ad δ K) (hb : hM ad δ K ≤ 2000) (hr : ∀ i, i < 2000 → hR ad δ1 K i = hR ad δ K i) {x : Int32} : hmem ad δ1 K x ↔ hmem ad δ K x := by
  constructor
  · rintro ⟨i, h1, h2⟩
    rw [hm] at h1
    exact ⟨i, h1, by rw [← hr i (by omega)]; exact h2⟩
  · rintro ⟨i, h1, h2⟩
    exact ⟨i, by rw [hm]; exact h1, by rw [hr i (by omega)]; exact h2⟩
/-- rows 102, 103, 106 as they were: the houses are -/
theorem h_rows {ad : List Nat} {δ δ1 : dp} (h2 : q_R δ1 (Ad ad 102) = q_R δ (Ad ad 102)) (h3 : q_R δ1 (Ad ad 103) = q_R δ (Ad ad 103)) (K : Nat) : hM ad δ1 K = hM ad δ K ∧ ∀ i, hR ad δ1 K i = hR ad δ K i := ⟨by unfold hM; rw [h3], fun i => by unfold hR; rw [h2]⟩
theorem f12_notes {ad : List Nat} {h : hp} (L : Lay TLx ad h) {δ0 : dp} {N a0 H : Nat} {x1 x2 x3 : Int32} (ka : q_K h.1 a0 = 12) (hx : x1.toInt = (H : Int)) (hh : H < 4) {δ : dp} (I : RI ad h.1 δ0 δ) (hn : hN ad δ H < 1000) : ok (D_X12_notesDown N h.1 a0 x1 x2 x3 δ) (fun r => ∀ j : Nat, hN ad r j = if j = H then hN ad δ H + 1 else hN ad δ j) := by
  have hB : 0 ≤ hN ad δ H ∧ hN ad δ H ≤ 1000 := rb_106 L I H
  have e0 : (0 : Int32).toInt = 0 := rfl
  have tn := tnH hx
  have hv : (q_R δ (Ad ad 106) H).toInt = hN ad δ H := rfl
  unfold D_X12_notesDown
  obtain ⟨b, o1, _, n1, _⟩ := gO_12_15 L ka
  obtain rfl := gS_12_15 L ka o1
  obtain ⟨b, o2, _, n2, _⟩ := gO_12_16 L ka
  obtain rfl := gS_12_16 L ka o2
  obtain ⟨b, o3, _, n3⟩ := gO_12_17 L ka
  obtain rfl := gS_12_17 L ka o3
  have t1 := te_mulc (c := 1000) (n := 1000) rfl x1 (by omega) (by omega)
  have g : ∀ d : dp, q_R d (Ad ad 106) = q_R δ (Ad ad 106) → ((1000 : Int32) * x1 + q_R d (Ad ad 106) H).toInt = 1000 * x1.toInt + hN ad δ H ∧ ((1000 : Int32) * x1 + q_R d (Ad ad 106) H).toNatClampNeg < 4000 := fun d e => by
    rw [e]
    have t2 := te_add ((1000 : Int32) * x1) (q_R δ (Ad ad 106) H) (by omega) (by omega)
    have t3 := ti_tn ((1000 : Int32) * x1 + q_R δ (Ad ad 106) H)
    omega
  refine ok_at o1 ?_
  refine ok_at o3 ?_
  rw [tn]
  have g0 := g δ rfl
  refine ok_gd (fun z => ?_) ?_
  · rcases z with z | z
    · have := o_lt z; omega
    · omega
  refine ok_gd (fun z => ?_) ?_
  · rcases z with z | z
    · have := o_lt z; omega
    · omega
  refine ok_bdv (fun d1 e1 => ?_)
  have q1 : q_R d1 (Ad ad 106) = q_R δ (Ad ad 106) := by rw [e1, rR_o (ad_ne L (by decide) (by decide) (by decide))]
  have g1 := g d1 q1
  refine ok_at o2 ?_
  refine ok_at o3 ?_
  refine ok_gd (fun z => ?_) ?_
  · rcases z with z | z
    · have := o_lt z; omega
    · omega
  refine ok_gd (fun z => ?_) ?_
  · rcases z with z | z
    · have := o_lt z; omega
    · omega
  refine ok_bdv (fun d2 e2 => ?_)
  have q2 : q_R d2 (Ad ad 106) = q_R δ (Ad ad 106) := by rw [e2, rR_o (ad_ne L (by decide) (by decide) (by decide)), q1]
  refine ok_at o3 ?_
  refine ok_gd (fun z => ?_) ?_
  · rcases z with z | z
    · have := o_lt z; omega
    · omega
  refine ok_gd (fun z => ?_) ?_
  · rcases z with z | z
    · have := o_lt z; omega
    · omega
  refine ok_bdv (fun d3 e3 => ?_)
  refine ok_some (fun j => ?_)
  show (q_R d3 (Ad ad 106) j).toInt = _
  rw [e3, qR_sR, q2]
  by_cases c : j = H
  · rw [if_pos ⟨rfl, c⟩, if_pos c]
    have := te_addc (c := 1) (n := 1) rfl (q_R δ (Ad ad 106) H) (by omega) (by omega)
    omega
  · rw [if_neg (fun z => c z.2), if_neg c]
    rfl
theorem hin_k {ad : List Nat} {δ δ1 : dp} {H M p : Nat} {x : Int32} (hM2 : M < 2000) (hp : p ≤ M) (D : hin ad δ δ1 H x p M) (hn : q_R δ1 (Ad ad 106) = q_R δ (Ad ad 106)) : hkeep ad δ δ1 H := fun K a b => by
  refine ⟨?_, by unfold hN; rw [hn], fun i hi => ?_⟩
  · have := D.2 K
    rw [if_neg b] at this
    exact this
  · unfold hR
    rw [D.1, if_neg (by omega), if_neg (by omega)]
theorem hde_k {ad : List Nat} {δ δ1 : dp} {H M p : Nat} (hM2 : M ≤ 2000) (D : hde ad δ δ1 H p M) (hn : q_R δ1 (Ad ad 106) = q_R δ (Ad ad 106)) : hkeep ad δ δ1 H := fun K a b => by
  refine ⟨?_, by unfold hN; rw [hn], fun i hi => ?_⟩
  · have := D.2 K
    rw [if_neg b] at this
    exact this
  · unfold hR
    rw [D.1, if_neg (by omega)]
/-- a put that a caller makes -/
theorem f12_cput {ad : List Nat} {h : hp} (L : Lay TLx ad h) {δ0 : dp} {N : Nat} (hNN : 10000000 ≤ N) {a0 H : Nat} {x1 x : Int32} (ka : q_K h.1 a0 = 12) (hx : x1.toInt = (H : Int)) (hh : H < 4) {δ : dp} (I : RI ad h.1 δ0 δ) (S : hsr ad δ H) (pc : ¬ hmem ad δ H x → hM ad δ H < 2000 ∧ hN ad δ H < 1000) : ok (D_X12_calls N h.1 a0 x1 0 x δ) (fun r => RI ad h.1 δ0 r.2 ∧ kp [(12, 36)] δ r.2 ∧ kr ad [102, 103, 104, 105, 106, 119] δ r.2 ∧ hsr ad r.2 H ∧ hkeep ad δ r.2 H ∧ (∀ y, hmem ad δ H y → hmem ad r.2 H y) ∧ (∀ y, hmem ad r.2 H y → hmem ad δ H y ∨ y = x) ∧ ((hmem ad δ H x ∧ hM ad r.2 H = hM ad δ H ∧ hN ad r.2 H = hN ad δ H) ∨ (¬ hmem ad δ H x ∧ hmem ad r.2 H x ∧ hM ad r.2 H = hM ad δ H + 1 ∧ hN ad r.2 H = hN ad δ H + 1))) := by
  have z0 : 0 ≤ x1.toInt := by omega
  have z1 : x1.toInt ≤ 3 := by omega
  have tn := tnH hx
  unfold D_X12_calls
  refine ok_bind (k_X12_halves L hNN (a0 := a0) (x1 := x1) (x2 := 0) (x3 := x) ka z0 z1 I) (fun r hr => ?_)
  obtain ⟨i1, u1, v1, w1⟩ := hr
  have q2 := w1 102 (by decide) (by decide) (by decide)
  have q3 := w1 103 (by decide) (by decide) (by decide)
  have q6 := w1 106 (by decide) (by decide) (by decide)
  have g0 : ∀ K, hM ad r.2 K = hM ad δ K ∧ hN ad r.2 K = hN ad δ K ∧ ∀ i, hR ad r.2 K i = hR ad δ K i := fun K => ⟨(h_rows q2 q3 K).1, by unfold hN; rw [q6], (h_rows q2 q3 K).2⟩
  have hB : -1000 ≤ hM ad δ H ∧ hM ad δ H ≤ 2000 := rb_103 L I H
  have S1 : hsr ad r.2 H := hsr_k (g0 H).1 hB.2 (fun i _ => (g0 H).2.2 i) S
  have me : ∀ y, hmem ad r.2 H y ↔ hmem ad δ H y := fun y => hmem_k (g0 H).1 hB.2 (fun i _ => (g0 H).2.2 i)
  have k1 : hkeep ad δ r.2 H := fun K _ _ => ⟨(g0 K).1, (g0 K).2.1, fun i _ => (g0 K).2.2 i⟩
  refine ok_bind (f12_isThere L hNN (x := x) ka hx hh i1 S1) (fun r2 hr2 => ?_)
  obtain ⟨e, hm⟩ := hr2
  rw [e]
  refine ok_ite (fun _ => ?_) (fun c => absurd rfl c)
  rcases hm with ⟨e1, m1⟩ | ⟨e1, m1⟩
  · rw [e1]
    refine ok_ite (fun c => absurd c (by decide)) (fun _ => ?_)
    unfold J_X12_calls_39
    refine ok_ite (fun c => absurd c (by decide)) (fun _ => ?_)
    unfold J_X12_calls_62
    exact ok_some ⟨i1, kp_w (by decide) u1, kr_w (by decide) w1, S1, k1, fun y hy => (me y).mpr hy, fun y hy => Or.inl ((me y).mp hy), Or.inl ⟨(me x).mp m1, (g0 H).1, (g0 H).2.1⟩⟩
  · rw [e1]
    refine ok_ite (fun _ => ?_) (fun c => absurd rfl c)
    have nm : ¬ hmem ad δ H x := fun z => m1 ((me x).mpr z)
    obtain ⟨pc1, pc2⟩ := pc nm
    obtain ⟨M, hMM⟩ : ∃ M : Nat, hM ad r.2 H = (M : Int) := ⟨(hM ad r.2 H).toNat, by have := S1.1; omega⟩
    have gm := (g0 H).1
    refine ok_bind (ok_and (k_X12_comes L hNN (a0 := a0) (x1 := x1) (x2 := x) ka z0 z1 (by rw [tn]; show hM ad r.2 H < 2000; omega) i1) (f12_comes L hNN (x := x) ka hx hh i1 S1 hMM (by omega))) (fun r3 hr3 => ?_)
    obtain ⟨⟨i3, ⟨u3, v3, w3⟩, _⟩, p, P, D⟩ := hr3
    have pm : p ≤ M := by have := P.1; omega
    obtain ⟨S3, mm, mx, mb⟩ := hin_s S1 hMM (by omega) P m1 D
    have n3 := w3 106 (by decide) (by decide) (by decide)
    have k3 := hin_k (by omega) pm D n3
    have m3 : hM ad r3 H = (M : Int) + 1 := by
      have := D.2 H
      rw [if_pos rfl] at this
      exact this
    have nn : hN ad r3 H = hN ad δ H := by rw [← (g0 H).2.1]; unfold hN; rw [n3]
    refine ok_bind (ok_and (k_X12_notesDown L hNN (a0 := a0) (x1 := x1) (x2 := x) (x3 := 1) ka z0 z1 (by rw [tn]; show hN ad r3 H < 1000; omega) i3) (f12_notes L ka hx hh i3 (by omega))) (fun r4 hr4 => ?_)
    obtain ⟨⟨i4, ⟨u4, v4, w4⟩, _⟩, D4⟩ := hr4
    have a2 := w4 102 (by decide) (by decide) (by decide)
    have a3 := w4 103 (by decide) (by decide) (by decide)
    have g4 := h_rows a2 a3
    have hB3 : -1000 ≤ hM ad r3 H ∧ hM ad r3 H ≤ 2000 := rb_103 L i3 H
    have S4 : hsr ad r4 H := hsr_k (g4 H).1 hB3.2 (fun i _ => (g4 H).2 i) S3
    have me4 : ∀ y, hmem ad r4 H y ↔ hmem ad r3 H y := fun y => hmem_k (g4 H).1 hB3.2 (fun i _ => (g4 H).2 i)
    have k4 : hkeep ad r3 r4 H := fun K _ b => ⟨(g4 K).1, by rw [D4, if_neg b], fun i _ => (g4 K).2 i⟩
    unfold J_X12_calls_39
    refine ok_ite (fun c => absurd c (by decide)) (fun _ => ?_)
    unfold J_X12_calls_62
    refine ok_some ⟨i4, kp_w (by decide) (kp_t (kp_t u1 u3) u4), kr_w (by decide) (kr_t (kr_t w1 w3) w4), S4, (k1.t k3).t k4, fun y hy => (me4 y).mpr (mm y ((me y).mpr hy)), fun y hy => (mb y ((me4 y).mp hy)).imp (fun z => (me y).mp z) id, Or.inr ⟨nm, (me4 x).mpr mx, ?_, ?_⟩⟩
    · show hM ad r4 H = _
      rw [(g4 H).1]; omega
    · show hN ad r4 H = _
      rw [D4, if_pos rfl]; omega
/-- a drop that a caller makes -/
theorem f12_cdrop {ad : List Nat} {h : hp} (L : Lay TLx ad h) {δ0 : dp} {N : Nat} (hNN : 10000000 ≤ N) {a0 H : Nat} {x1 x : Int32} (ka : q_K h.1 a0 = 12) (hx : x1.toInt = (H : Int)) (hh : H < 4) {δ : dp} (I : RI ad h.1 δ0 δ) (S : hsr ad δ H) (pc : hmem ad δ H x → hN ad δ H < 1000) : ok (D_X12_calls N h.1 a0 x1 1 x δ) (fun r => RI ad h.1 δ0 r.2 ∧ kp [(12, 36)] δ r.2 ∧ kr ad [102, 103, 104, 105, 106, 119] δ r.2 ∧ hsr ad r.2 H ∧ hkeep ad δ r.2 H ∧ (∀ y, hmem ad r.2 H y → hmem ad δ H y) ∧ ((¬ hmem ad δ H x ∧ hM ad r.2 H = hM ad δ H ∧ hN ad r.2 H = hN ad δ H) ∨ (hmem ad δ H x ∧ hM ad r.2 H = hM ad δ H - 1 ∧ hN ad r.2 H = hN ad δ H + 1))) := by
  have z0 : 0 ≤ x1.toInt := by omega
  have z1 : x1.toInt ≤ 3 := by omega
  have tn := tnH hx
  unfold D_X12_calls
  refine ok_bind (k_X12_halves L hNN (a0 := a0) (x1 := x1) (x2 := 1) (x3 := x) ka z0 z1 I) (fun r hr => ?_)
  obtain ⟨i1, u1, v1, w1⟩ := hr
  have q2 := w1 102 (by decide) (by decide) (by decide)
  have q3 := w1 103 (by decide) (by decide) (by decide)
  have q6 := w1 106 (by decide) (by decide) (by decide)
  have g0 : ∀ K, hM ad r.2 K = hM ad δ K ∧ hN ad r.2 K = hN ad δ K ∧ ∀ i, hR ad r.2 K i = hR ad δ K i := fun K => ⟨(h_rows q2 q3 K).1, by unfold hN; rw [q6], (h_rows q2 q3 K).2⟩
  have hB : -1000 ≤ hM ad δ H ∧ hM ad δ H ≤ 2000 := rb_103 L I H
  have S1 : hsr ad r.2 H := hsr_k (g0 H).1 hB.2 (fun i _ => (g0 H).2.2 i) S
  have me : ∀ y, hmem ad r.2 H y ↔ hmem ad δ H y := fun y => hmem_k (g0 H).1 hB.2 (fun i _ => (g0 H).2.2 i)
  have k1 : hkeep ad δ r.2 H := fun K _ _ => ⟨(g0 K).1, (g0 K).2.1, fun i _ => (g0 K).2.2 i⟩
  refine ok_bind (f12_isThere L hNN (x := x) ka hx hh i1 S1) (fun r2 hr2 => ?_)
  obtain ⟨e, hm⟩ := hr2
  rw [e]
  refine ok_ite (fun c => absurd c (by decide)) (fun _ => ?_)
  unfold J_X12_calls_39
  refine ok_ite (fun _ => ?_) (fun c => absurd rfl c)
  rcases hm with ⟨e1, m1⟩ | ⟨e1, m1⟩
  · rw [e1]
    refine ok_ite (fun c => absurd c (by decide)) (fun _ => ?_)
    have hm0 : hmem ad δ H x := (me x).mp m1
    have pc2 := pc hm0
    obtain ⟨M, hMM⟩ : ∃ M : Nat, hM ad r.2 H = (M : Int) := ⟨(hM ad r.2 H).toNat, by have := S1.1; omega⟩
    have gm := (g0 H).1
    have gp : 1 ≤ hM ad r.2 H := by
      obtain ⟨i, h1, _⟩ := m1
      omega
    refine ok_bind (ok_and (k_X12_leaves L hNN (a0 := a0) (x1 := x1) (x2 := x) ka z0 z1 (by rw [tn]; show -999 ≤ hM ad r.2 H; omega) i1) (f12_leaves L hNN (x := x) ka hx hh i1 S1 hMM m1)) (fun r3 hr3 => ?_)
    obtain ⟨⟨i3, ⟨u3, v3, w3⟩, _⟩, p, pM, _, D⟩ := hr3
    obtain ⟨S3, mm⟩ := hde_s S1 hMM (by omega) pM D
    have n3 := w3 106 (by decide) (by decide) (by decide)
    have k3 := hde_k (by omega) D n3
    have m3 : hM ad r3 H = (M : Int) - 1 := by
      have := D.2 H
      rw [if_pos rfl] at this
      exact this
    have nn : hN ad r3 H = hN ad δ H := by rw [← (g0 H).2.1]; unfold hN; rw [n3]
    refine ok_bind (ok_and (k_X12_notesDown L hNN (a0 := a0) (x1 := x1) (x2 := x) (x3 := 0) ka z0 z1 (by rw [tn]; show hN ad r3 H < 1000; omega) i3) (f12_notes L ka hx hh i3 (by omega))) (fun r4 hr4 => ?_)
    obtain ⟨⟨i4, ⟨u4, v4, w4⟩, _⟩, D4⟩ := hr4
    have a2 := w4 102 (by decide) (by decide) (by decide)
    have a3 := w4 103 (by decide) (by decide) (by decide)
    have g4 := h_rows a2 a3
    have hB3 : -1000 ≤ hM ad r3 H ∧ hM ad r3 H ≤ 2000 := rb_103 L i3 H
    have S4 : hsr ad r4 H := hsr_k (g4 H).1 hB3.2 (fun i _ => (g4 H).2 i) S3
    have me4 : ∀ y, hmem ad r4 H y ↔ hmem ad r3 H y := fun y => hmem_k (g4 H).1 hB3.2 (fun i _ => (g4 H).2 i)
    have k4 : hkeep ad r3 r4 H := fun K _ b => ⟨(g4 K).1, by rw [D4, if_neg b], fun i _ => (g4 K).2 i⟩
    unfold J_X12_calls_62
    refine ok_some ⟨i4, kp_w (by decide) (kp_t (kp_t u1 u3) u4), kr_w (by decide) (kr_t (kr_t w1 w3) w4), S4, (k1.t k3).t k4, fun y hy => (me y).mp (mm y ((me4 y).mp hy)), Or.inr ⟨hm0, ?_, ?_⟩⟩
    · show hM ad r4 H = _
      rw [(g4 H).1]; omega
    · show hN ad r4 H = _
      rw [D4, if_pos rfl]; omega
  · rw [e1]
    refine ok_ite (fun _ => ?_) (fun c => absurd rfl c)
    unfold J_X12_calls_62
    exact ok_some ⟨i1, kp_w (by decide) u1, kr_w (by decide) w1, S1, k1, fun y hy => (me y).mp hy, Or.inl ⟨fun z => m1 ((me x).mpr z), (g0 H).1, (g0 H).2.1⟩⟩
