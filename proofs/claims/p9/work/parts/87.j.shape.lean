/-! the reference's shape: what is thrown, and the houses (by gen_frame12.py) -/
def KG (ad : List Nat) (δ δ1 : dp) : Prop := (∀ a, q_I δ1 12 0 a = q_I δ 12 0 a) ∧ q_R δ1 (Ad ad 103) = q_R δ (Ad ad 103) ∧ q_R δ1 (Ad ad 106) = q_R δ (Ad ad 106)
theorem KG_r {ad : List Nat} {δ : dp} : KG ad δ δ := ⟨fun _ => rfl, rfl, rfl⟩
theorem KG.t {ad : List Nat} {δ δ1 δ2 : dp} (h : KG ad δ δ1) (k : KG ad δ1 δ2) : KG ad δ δ2 := ⟨fun a => (k.1 a).trans (h.1 a), k.2.1.trans h.2.1, k.2.2.trans h.2.2⟩
theorem KG.I {ad : List Nat} {δ δ1 δ2 : dp} {k a : Nat} {x : Int32} (h : KG ad δ δ1) (e : δ2 = s_I δ1 12 (k + 1) a x) (_ : ¬ (3 = 12 ∧ 1 = k + 1)) (_ : ¬ (2 = 12 ∧ 4 = k + 1)) : KG ad δ δ2 := h.t ⟨fun a => by rw [e]; exact rI_o (fun z => by omega), by rw [e]; rfl, by rw [e]; rfl⟩
theorem KG.R {ad : List Nat} {δ δ1 δ2 : dp} {b i : Nat} {x : Int32} (h : KG ad δ δ1) (e : δ2 = s_R δ1 b i x) (n : Ad ad 103 ≠ b ∧ Ad ad 106 ≠ b) : KG ad δ δ2 := h.t ⟨fun a => by rw [e]; rfl, by rw [e]; exact rR_o n.1, by rw [e]; exact rR_o n.2⟩
/-- how shape ends: refused, houses as they were; or taken, houses empty -/
def FIN (ad : List Nat) (δ : dp) (r : Int32 × dp) : Prop := (∀ a, q_I r.2 12 0 a = q_I δ 12 0 a) ∧ ((r.1 = q_I r.2 12 6 (Ad ad 99) - 10 ∧ q_R r.2 (Ad ad 103) = q_R δ (Ad ad 103) ∧ q_R r.2 (Ad ad 106) = q_R δ (Ad ad 106)) ∨ (r.1 = q_I r.2 12 10 (Ad ad 99) ∧ ∀ K, K < 4 → (q_R r.2 (Ad ad 103) K).toInt = 0 ∧ (q_R r.2 (Ad ad 106) K).toInt = 0))
theorem FIN_t {ad : List Nat} {δ δ1 : dp} {r : Int32 × dp} (h : KG ad δ δ1) (k : FIN ad δ1 r) : FIN ad δ r := by
  obtain ⟨k1, k2⟩ := k
  refine ⟨fun a => (k1 a).trans (h.1 a), ?_⟩
  rcases k2 with ⟨a, b, c⟩ | k2
  · exact Or.inl ⟨a, b.trans h.2.1, c.trans h.2.2⟩
  · exact Or.inr k2
theorem fin_299 {ad : List Nat} {h : hp} (L : Lay TLx ad h) {N : Nat} {x1 : Int32} : ∀ (m i : Nat) (y : Int32) (δ : dp), y.toInt = (i : Int) → i ≤ 4 → q_I δ 12 5 (Ad ad 99) = -1 → (∀ K, K < i → (q_R δ (Ad ad 103) K).toInt = 0 ∧ (q_R δ (Ad ad 106) K).toInt = 0) → hs (L_X12_shape_299 N h.1 (Ad ad 99) x1 m y δ) (fun r => (∀ a, q_I r.2 12 0 a = q_I δ 12 0 a) ∧ r.1 = q_I r.2 12 10 (Ad ad 99) ∧ ∀ K, K < 4 → (q_R r.2 (Ad ad 103) K).toInt = 0 ∧ (q_R r.2 (Ad ad 106) K).toInt = 0) := by
  have ka : q_K h.1 (Ad ad 99) = 12 := (lay_knd L (by decide)).trans (by decide)
  obtain ⟨b14, o14, _⟩ := gO_12_14 L ka
  obtain rfl := gS_12_14 L ka o14
  obtain ⟨b17, o17, _⟩ := gO_12_17 L ka
  obtain rfl := gS_12_17 L ka o17
  have n36 : Ad ad 103 ≠ Ad ad 106 := ad_ne L (by decide) (by decide) (by decide)
  have e4 : (4 : Int32).toInt = 4 := rfl
  intro m
  induction m with
  | zero => intro i y δ _ _ _ _; exact hs_none
  | succ m ih =>
    intro i y δ hy hi hf hz
    unfold L_X12_shape_299
    refine hs_ite (fun c => ?_) (fun c => ?_)
    · have c1 := o_le c
      refine hs_bdv (fun d e => ?_)
      have d5 : q_I d 12 5 (Ad ad 99) = -1 := by rw [e, rI_o (by decide)]; exact hf
      have d10 : q_I d 12 10 (Ad ad 99) = q_I δ 12 10 (Ad ad 99) := by rw [e, rI_o (by decide)]
      refine hs_bind (P := fun r => r.1 = q_I d 12 10 (Ad ad 99) ∧ (∀ a, q_I r.2 12 0 a = q_I δ 12 0 a) ∧ q_I r.2 12 10 (Ad ad 99) = q_I δ 12 10 (Ad ad 99) ∧ q_R r.2 = q_R δ) ?_ (fun r hr => hs_some ?_)
      · unfold D_X12_result J_X12_result_26
        refine hs_bdv (fun d2 e2 => ?_)
        have f5 : q_I d2 12 5 (Ad ad 99) = -1 := by rw [e2, rI_o (by decide)]; exact d5
        refine hs_bind r_fine (fun r hr => ?_)
        obtain ⟨f1, f2⟩ := hr
        rw [f1]
        have all : (∀ a, q_I d2 12 0 a = q_I δ 12 0 a) ∧ q_I d2 12 10 (Ad ad 99) = q_I δ 12 10 (Ad ad 99) ∧ q_R d2 = q_R δ := ⟨fun a => by rw [e2, rI_o (by decide), e, rI_o (by decide)], by rw [e2, rI_o (by decide)]; exact d10, by rw [e2, e]; rfl⟩
        refine hs_ite (fun z => ?_) (fun z => hs_some ⟨rfl, all⟩)
        rcases f2 with ⟨a, _⟩ | ⟨_, b⟩
        · rw [a] at z; exact absurd z (by decide)
        · exact absurd f5 b
      · obtain ⟨h1, h2, h3, h4⟩ := hr
        exact ⟨h2, by show r.1 = q_I r.2 12 10 (Ad ad 99); rw [h1, h3, d10], fun K hK => by show (q_R r.2 (Ad ad 103) K).toInt = 0 ∧ (q_R r.2 (Ad ad 106) K).toInt = 0; rw [h4]; exact hz K (by omega)⟩
    · have c1 := o_nle c
      have ty := ti_tn y
      refine hs_at o14 (hs_gd (fun _ => hs_bdv (fun d1 e1 => hs_at o17 (hs_gd (fun _ => hs_bdv (fun d2 e2 => hs_biv (fun w ew => ?_)))))))
      have y1 := te_addc (c := 1) (n := 1) rfl y (by omega) (by omega)
      rw [← ew] at y1
      refine hs_mono (ih (i + 1) w d2 (by omega) (by omega) (by rw [e2, e1]; exact hf) (fun K hK => ?_)) (fun r hr => ⟨fun a => by rw [hr.1 a, e2, e1]; rfl, hr.2⟩)
      have q3 : q_R d2 (Ad ad 103) K = if K = i then 0 else q_R δ (Ad ad 103) K := by
        rw [e2, rR_o n36, e1, qR_sR]
        by_cases z : K = i
        · rw [if_pos ⟨rfl, by omega⟩, if_pos z]
        · rw [if_neg (fun y => z (by omega)), if_neg z]
      have q6 : q_R d2 (Ad ad 106) K = if K = i then 0 else q_R δ (Ad ad 106) K := by
        rw [e2, qR_sR]
        by_cases z : K = i
        · rw [if_pos ⟨rfl, by omega⟩, if_pos z]
        · rw [if_neg (fun y => z (by omega)), if_neg z, e1, rR_o n36.symm]
      rw [q3, q6]
      by_cases z : K = i
      · rw [if_pos z, if_pos z]; exact ⟨rfl, rfl⟩
      · rw [if_neg z, if_neg z]; exact hz K (by omega)
theorem hj_X12_shape_267 {ad : List Nat} {h : hp} (L : Lay TLx ad h) {N : Nat} {x1 x2 x3 x4 : Int32} {δ : dp} : hs (J_X12_shape_267 N h.1 (Ad ad 99) x1 x2 x3 x4 δ) (fun r => FIN ad δ r) := by
  unfold J_X12_shape_267
  refine hs_bind r_fine (fun r hr => ?_)
  obtain ⟨f1, f2⟩ := hr
  rw [f1]
  refine hs_ite (fun z => ?_) (fun z => ?_)
  · refine hs_bind (P := fun r => r.1 = q_I r.2 12 6 (Ad ad 99) - 10 ∧ (∀ a, q_I r.2 12 0 a = q_I δ 12 0 a) ∧ q_R r.2 = q_R δ) ?_ (fun r hr => hs_some ⟨hr.2.1, Or.inl ⟨hr.1, by show q_R r.2 _ = _; rw [hr.2.2], by show q_R r.2 _ = _; rw [hr.2.2]⟩⟩)
    unfold D_X12_result J_X12_result_26
    refine hs_bdv (fun d2 e2 => ?_)
    have e5 : q_I d2 12 5 (Ad ad 99) = q_I δ 12 5 (Ad ad 99) := by rw [e2, rI_o (by decide)]
    refine hs_bind r_fine (fun r hr => ?_)
    obtain ⟨g1, g2⟩ := hr
    rw [g1]
    refine hs_ite (fun y => hs_some ⟨rfl, fun a => by show q_I d2 12 0 a = _; rw [e2, rI_o (by decide)], by show q_R d2 = _; rw [e2]; rfl⟩) (fun y => ?_)
    rcases f2 with ⟨a, _⟩ | ⟨_, b⟩
    · rw [a] at z; exact absurd z (by decide)
    · rcases g2 with ⟨_, c⟩ | ⟨c, _⟩
      · exact absurd (e5.symm.trans c) b
      · exact absurd c y
  · refine hs_bdv (fun d1 e1 => hs_bdv (fun d2 e2 => hs_gp (fun _ => hs_bdv (fun d3 e3 => ?_))))
    have e5 : q_I d3 12 5 (Ad ad 99) = -1 := by
      rw [e3, rI_o (by decide), e2, rI_o (by decide), e1, rI_o (by decide)]
      rcases f2 with ⟨_, b⟩ | ⟨a, _⟩
      · exact b
      · exact absurd a z
    refine hs_mono (fin_299 L N 0 0 d3 rfl (by omega) e5 (fun K hK => by omega)) (fun r hr => ⟨fun a => ?_, Or.inr hr.2⟩)
    rw [hr.1 a, e3, rI_o (by decide), e2, rI_o (by decide), e1, rI_o (by decide)]
theorem hj_X12_fine_13 {ad : List Nat} {h : hp} (L : Lay TLx ad h) {N : Nat} {a0 : Nat} {xs0 : Int32}  {δ : dp} : hs (J_X12_fine_13 N h.1 a0 xs0 δ) (fun r => KG ad δ r.2) := by
  unfold J_X12_fine_13
  refine hs_gp (fun gk1 => ?_)
  exact hs_some KG_r
theorem hf_X12_fine {ad : List Nat} {h : hp} (L : Lay TLx ad h) {N : Nat} {a0 : Nat}  {δ : dp} : hs (D_X12_fine N h.1 a0 δ) (fun r => KG ad δ r.2) := by
  unfold D_X12_fine
  refine hs_ite (fun _ => ?_) (fun _ => ?_)
  · skip
    exact hj_X12_fine_13 L
  · skip
    exact hj_X12_fine_13 L
theorem hj_X12_here_62 {ad : List Nat} {h : hp} (L : Lay TLx ad h) {N : Nat} {a0 : Nat} {xs0 : Int32}  {δ : dp} : hs (J_X12_here_62 N h.1 a0 xs0 δ) (fun r => KG ad δ r.2) := by
  unfold J_X12_here_62
  exact hs_some KG_r
theorem hj_X12_here_38 {ad : List Nat} {h : hp} (L : Lay TLx ad h) {N : Nat} {a0 : Nat}  {δ : dp} : hs (J_X12_here_38 N h.1 a0 δ) (fun r => KG ad δ r.2) := by
  unfold J_X12_here_38
  refine hs_ite (fun _ => ?_) (fun _ => ?_)
  · skip
    exact hj_X12_here_62 L
  · skip
    refine hs_ob (fun b_3 hb_3 => ?_)
    refine hs_gd (fun gz1 => ?_)
    exact hj_X12_here_62 L
theorem hl_X12_here_0 {ad : List Nat} {h : hp} (L : Lay TLx ad h) {N : Nat} {a0 : Nat}  : ∀ (n : Nat) (δ : dp), hs (L_X12_here_0 N h.1 a0 n δ) (fun r => KG ad δ r.2) := by
  intro n
  induction n with
  | zero => intro δ; unfold L_X12_here_0; exact hs_none
  | succ n ih =>
    intro δ
    unfold L_X12_here_0
    refine hs_ite (fun _ => ?_) (fun _ => ?_)
    · skip
      exact hj_X12_here_38 L
    · skip
      refine hs_ob (fun b_5 hb_5 => ?_)
      refine hs_gd (fun gz1 => ?_)
      refine hs_ite (fun _ => ?_) (fun _ => ?_)
      · skip
        refine hs_bdv (fun δ_8 e2 => ?_)
        have u2 : KG ad δ δ_8 := KG.I KG_r e2 (by decide) (by decide)
        exact hs_mono (ih δ_8) (fun _ hr => u2.t (hr))
      · skip
        exact hj_X12_here_38 L
theorem hf_X12_here {ad : List Nat} {h : hp} (L : Lay TLx ad h) {N : Nat} {a0 : Nat}  {δ : dp} : hs (D_X12_here N h.1 a0 δ) (fun r => KG ad δ r.2) := by
  unfold D_X12_here
  exact hl_X12_here_0 L N δ
theorem hj_X12_isMore_21 {ad : List Nat} {h : hp} (L : Lay TLx ad h) {N : Nat} {a0 : Nat} {xs0 : Int32}  {δ : dp} : hs (J_X12_isMore_21 N h.1 a0 xs0 δ) (fun r => KG ad δ r.2) := by
  unfold J_X12_isMore_21
  refine hs_gp (fun gk1 => ?_)
  exact hs_some KG_r
theorem hf_X12_isMore {ad : List Nat} {h : hp} (L : Lay TLx ad h) {N : Nat} {a0 : Nat}  {δ : dp} : hs (D_X12_isMore N h.1 a0 δ) (fun r => KG ad δ r.2) := by
  unfold D_X12_isMore
  refine hs_bind (hf_X12_here L) (fun r_1 u1' => ?_)
  have u1 : KG ad δ r_1.2 := u1'
  refine hs_ite (fun _ => ?_) (fun _ => ?_)
  · skip
    exact hs_mono (hj_X12_isMore_21 L) (fun _ hr => u1.t (hr))
  · skip
    exact hs_mono (hj_X12_isMore_21 L) (fun _ hr => u1.t (hr))
theorem khj_J0_isLatin1_aae02_18 {ad : List Nat} {h : hp} (L : Lay TLx ad h) {N : Nat} {a0 : Nat} {xs0 : Int32}  {δ : dp} : hs (J_J0_isLatin1_aae02_18 N h.1 a0 xs0 δ) (fun r => KG ad δ r.2) := by
  unfold J_J0_isLatin1_aae02_18
  refine hs_gp (fun gk1 => ?_)
  exact hs_some KG_r
theorem khj_J0_isLatin1_aae02_17 {ad : List Nat} {h : hp} (L : Lay TLx ad h) {N : Nat} {a0 : Nat}  {δ : dp} : hs (J_J0_isLatin1_aae02_17 N h.1 a0 δ) (fun r => KG ad δ r.2) := by
  unfold J_J0_isLatin1_aae02_17
  exact khj_J0_isLatin1_aae02_18 L
theorem khf_J0_isLatin1_aae02 {ad : List Nat} {h : hp} (L : Lay TLx ad h) {N : Nat} {a0 : Nat}  {δ : dp} : hs (D_J0_isLatin1_aae02 N h.1 a0 δ) (fun r => KG ad δ r.2) := by
  unfold D_J0_isLatin1_aae02
  refine hs_ite (fun _ => ?_) (fun _ => ?_)
  · skip
    exact khj_J0_isLatin1_aae02_17 L
  · skip
    refine hs_ite (fun _ => ?_) (fun _ => ?_)
    · skip
      exact khj_J0_isLatin1_aae02_18 L
    · skip
      exact khj_J0_isLatin1_aae02_17 L
theorem khf_J3_checkIndex_8e157 {ad : List Nat} {h : hp} (L : Lay TLx ad h) {N : Nat} {x0 : Int32} {x1 : Int32}  {δ : dp} : hs (D_J3_checkIndex_8e157 N h.1 x0 x1 δ) (fun r => KG ad δ r.2) := by
  unfold D_J3_checkIndex_8e157
  refine hs_gd (fun gz1 => ?_)
  refine hs_gp (fun gk2 => ?_)
  exact hs_some KG_r
theorem khf_J0_checkIndex_df160 {ad : List Nat} {h : hp} (L : Lay TLx ad h) {N : Nat} {x0 : Int32} {x1 : Int32}  {δ : dp} : hs (D_J0_checkIndex_df160 N h.1 x0 x1 δ) (fun r => KG ad δ r) := by
  unfold D_J0_checkIndex_df160
  refine hs_bind (khf_J3_checkIndex_8e157 L) (fun r_2 u1' => ?_)
  have u1 : KG ad δ r_2.2 := u1'
  exact hs_some u1
theorem khf_J1_charAt_3b067 {ad : List Nat} {h : hp} (L : Lay TLx ad h) {N : Nat} {a0 : Nat} {x1 : Int32}  {δ : dp} : hs (D_J1_charAt_3b067 N h.1 a0 x1 δ) (fun r => KG ad δ r.2) := by
  unfold D_J1_charAt_3b067
  refine hs_bind (khf_J0_checkIndex_df160 L) (fun r_1 u1' => ?_)
  have u1 : KG ad δ r_1 := u1'
  refine hs_gd (fun gz2 => ?_)
  refine hs_gp (fun gk3 => ?_)
  exact hs_some u1
theorem khf_J0_charAt_5068e {ad : List Nat} {h : hp} (L : Lay TLx ad h) {N : Nat} {a0 : Nat} {x1 : Int32}  {δ : dp} : hs (D_J0_charAt_5068e N h.1 a0 x1 δ) (fun r => KG ad δ r.2) := by
  unfold D_J0_charAt_5068e
  refine hs_bind (khf_J0_isLatin1_aae02 L) (fun r_1 u1' => ?_)
  have u1 : KG ad δ r_1.2 := u1'
  refine hs_gd (fun gz2 => ?_)
  refine hs_bind (khf_J1_charAt_3b067 L) (fun r_3 u3' => ?_)
  have u3 : KG ad δ r_3.2 := u1.t (u3')
  refine hs_gp (fun gk4 => ?_)
  exact hs_some u3
theorem khj_J0_coder_7d493_14 {ad : List Nat} {h : hp} (L : Lay TLx ad h) {N : Nat} {a0 : Nat} {xs0 : Int32}  {δ : dp} : hs (J_J0_coder_7d493_14 N h.1 a0 xs0 δ) (fun r => KG ad δ r.2) := by
  unfold J_J0_coder_7d493_14
  refine hs_gp (fun gk1 => ?_)
  exact hs_some KG_r
theorem khf_J0_coder_7d493 {ad : List Nat} {h : hp} (L : Lay TLx ad h) {N : Nat} {a0 : Nat}  {δ : dp} : hs (D_J0_coder_7d493 N h.1 a0 δ) (fun r => KG ad δ r.2) := by
  unfold D_J0_coder_7d493
  refine hs_ite (fun _ => ?_) (fun _ => ?_)
  · skip
    exact khj_J0_coder_7d493_14 L
  · skip
    exact khj_J0_coder_7d493_14 L
theorem khf_J0_length_8abf5 {ad : List Nat} {h : hp} (L : Lay TLx ad h) {N : Nat} {a0 : Nat}  {δ : dp} : hs (D_J0_length_8abf5 N h.1 a0 δ) (fun r => KG ad δ r.2) := by
  unfold D_J0_length_8abf5
  refine hs_bind (khf_J0_coder_7d493 L) (fun r_1 u1' => ?_)
  have u1 : KG ad δ r_1.2 := u1'
  exact hs_some u1
theorem hl_X12_of_4 {ad : List Nat} {h : hp} (L : Lay TLx ad h) {N : Nat} {a0 : Nat}  : ∀ (n : Nat) (x1v : Int32) (x2v : Int32) (δ : dp), hs (L_X12_of_4 N h.1 a0 n x1v x2v δ) (fun r => KG ad δ r.2) := by
  intro n
  induction n with
  | zero => intro x1v x2v δ; unfold L_X12_of_4; exact hs_none
  | succ n ih =>
    intro x1v x2v δ
    unfold L_X12_of_4
    refine hs_bind (khf_J0_length_8abf5 L) (fun r_1 u1' => ?_)
    have u1 : KG ad δ r_1.2 := u1'
    refine hs_ite (fun _ => ?_) (fun _ => ?_)
    · skip
      exact hs_some u1
    · skip
      refine hs_bind (khf_J0_charAt_5068e L) (fun r_3 u2' => ?_)
      have u2 : KG ad δ r_3.2 := u1.t (u2')
      refine hs_biv (fun x_4 _ => ?_)
      refine hs_biv (fun x_6 _ => ?_)
      exact hs_mono (ih x_4 x_6 r_3.2) (fun _ hr => u2.t (hr))
theorem hf_X12_of {ad : List Nat} {h : hp} (L : Lay TLx ad h) {N : Nat} {a0 : Nat}  {δ : dp} : hs (D_X12_of N h.1 a0 δ) (fun r => KG ad δ r.2) := by
  unfold D_X12_of
  exact hl_X12_of_4 L N 0 0 δ
theorem hj_X12_isSmall_17 {ad : List Nat} {h : hp} (L : Lay TLx ad h) {N : Nat} {x0 : Int32} {xs0 : Int32}  {δ : dp} : hs (J_X12_isSmall_17 N h.1 x0 xs0 δ) (fun r => KG ad δ r.2) := by
  unfold J_X12_isSmall_17
  refine hs_gp (fun gk1 => ?_)
  exact hs_some KG_r
theorem hj_X12_isSmall_16 {ad : List Nat} {h : hp} (L : Lay TLx ad h) {N : Nat} {x0 : Int32}  {δ : dp} : hs (J_X12_isSmall_16 N h.1 x0 δ) (fun r => KG ad δ r.2) := by
  unfold J_X12_isSmall_16
  exact hj_X12_isSmall_17 L
theorem hf_X12_isSmall {ad : List Nat} {h : hp} (L : Lay TLx ad h) {N : Nat} {x0 : Int32}  {δ : dp} : hs (D_X12_isSmall N h.1 x0 δ) (fun r => KG ad δ r.2) := by
  unfold D_X12_isSmall
  refine hs_ite (fun _ => ?_) (fun _ => ?_)
  · skip
    exact hj_X12_isSmall_16 L
  · skip
    refine hs_ite (fun _ => ?_) (fun _ => ?_)
    · skip
      exact hj_X12_isSmall_16 L
    · skip
      exact hj_X12_isSmall_17 L
theorem hj_X12_word_57 {ad : List Nat} {h : hp} (L : Lay TLx ad h) {N : Nat} {a0 : Nat} {kt14 : Int32 → Int32 → Int32 → dp → Option (Int32 × dp)} {xs0 : Int32} {x2v : Int32} {x3v : Int32} (h_kt14 : ∀ (y0 : Int32) (y1 : Int32) (y2 : Int32) (δ1 : dp), hs (kt14 y0 y1 y2 δ1) (fun r => KG ad δ1 r.2)) {δ : dp} : hs (J_X12_word_57 N h.1 a0 kt14 xs0 x2v x3v δ) (fun r => KG ad δ r.2) := by
  unfold J_X12_word_57
  refine hs_biv (fun x_11 _ => ?_)
  refine hs_biv (fun x_13 _ => ?_)
  exact h_kt14 xs0 x_11 x_13 δ
theorem hj_X12_word_78 {ad : List Nat} {h : hp} (L : Lay TLx ad h) {N : Nat} {a0 : Nat} {xs0 : Int32}  {δ : dp} : hs (J_X12_word_78 N h.1 a0 xs0 δ) (fun r => KG ad δ r.2) := by
  unfold J_X12_word_78
  exact hs_some KG_r
theorem hj_X12_word_67 {ad : List Nat} {h : hp} (L : Lay TLx ad h) {N : Nat} {a0 : Nat} {x1v : Int32} {x2v : Int32}  {δ : dp} : hs (J_X12_word_67 N h.1 a0 x1v x2v δ) (fun r => KG ad δ r.2) := by
  unfold J_X12_word_67
  refine hs_ite (fun _ => ?_) (fun _ => ?_)
  · skip
    exact hj_X12_word_78 L
  · skip
    exact hj_X12_word_78 L
theorem hl_X12_word_14 {ad : List Nat} {h : hp} (L : Lay TLx ad h) {N : Nat} {a0 : Nat}  : ∀ (n : Nat) (x1v : Int32) (x2v : Int32) (x3v : Int32) (δ : dp), hs (L_X12_word_14 N h.1 a0 n x1v x2v x3v δ) (fun r => KG ad δ r.2) := by
  intro n
  induction n with
  | zero => intro x1v x2v x3v δ; unfold L_X12_word_14; exact hs_none
  | succ n ih =>
    intro x1v x2v x3v δ
    unfold L_X12_word_14
    refine hs_ite (fun _ => ?_) (fun _ => ?_)
    · skip
      exact hj_X12_word_67 L
    · skip
      refine hs_ob (fun b_6 hb_6 => ?_)
      refine hs_gd (fun gz1 => ?_)
      refine hs_bind (hf_X12_isSmall L) (fun r_8 u2' => ?_)
      have u2 : KG ad δ r_8.2 := u2'
      refine hs_ite (fun _ => ?_) (fun _ => ?_)
      · skip
        exact hs_mono (hj_X12_word_67 L) (fun _ hr => u2.t (hr))
      · skip
        refine hs_ite (fun _ => ?_) (fun _ => ?_)
        · skip
          exact hs_mono (hj_X12_word_57 L ih) (fun _ hr => u2.t (hr))
        · skip
          refine hs_ob (fun b_15 hb_15 => ?_)
          refine hs_gd (fun gz3 => ?_)
          exact hs_mono (hj_X12_word_57 L ih) (fun _ hr => u2.t (hr))
theorem hf_X12_word {ad : List Nat} {h : hp} (L : Lay TLx ad h) {N : Nat} {a0 : Nat}  {δ : dp} : hs (D_X12_word N h.1 a0 δ) (fun r => KG ad δ r.2) := by
  unfold D_X12_word
  refine hs_bind (hf_X12_here L) (fun r_1 u1' => ?_)
  have u1 : KG ad δ r_1.2 := u1'
  refine hs_biv (fun x_2 _ => ?_)
  exact hs_mono (hl_X12_word_14 L N 0 0 x_2 r_1.2) (fun _ hr => u1.t (hr))
theorem hf_X12_wrong {ad : List Nat} {h : hp} (L : Lay TLx ad h) {N : Nat} {a0 : Nat} {x1 : Int32} {x2 : Int32}  {δ : dp} : hs (D_X12_wrong N h.1 a0 x1 x2 δ) (fun r => KG ad δ r) := by
  unfold D_X12_wrong
  refine hs_ite (fun _ => ?_) (fun _ => ?_)
  · skip
    refine hs_bdv (fun δ_2 e1 => ?_)
    have u1 : KG ad δ δ_2 := KG.I KG_r e1 (by decide) (by decide)
    refine hs_bdv (fun δ_4 e2 => ?_)
    have u2 : KG ad δ δ_4 := KG.I u1 e2 (by decide) (by decide)
    exact hs_some u2
  · skip
    exact hs_some KG_r
theorem hj_X12_pass_39 {ad : List Nat} {h : hp} (L : Lay TLx ad h) {N : Nat} {a0 : Nat}  {δ : dp} : hs (J_X12_pass_39 N h.1 a0 δ) (fun r => KG ad δ r) := by
  unfold J_X12_pass_39
  exact hs_some KG_r
theorem hl_X12_pass_0 {ad : List Nat} {h : hp} (L : Lay TLx ad h) {N : Nat} {a0 : Nat}  : ∀ (n : Nat) (δ : dp), hs (L_X12_pass_0 N h.1 a0 n δ) (fun r => KG ad δ r) := by
  intro n
  induction n with
  | zero => intro δ; unfold L_X12_pass_0; exact hs_none
  | succ n ih =>
    intro δ
    unfold L_X12_pass_0
    refine hs_ite (fun _ => ?_) (fun _ => ?_)
    · skip
      exact hj_X12_pass_39 L
    · skip
      refine hs_ob (fun b_2 hb_2 => ?_)
      refine hs_gd (fun gz1 => ?_)
      refine hs_bind (hf_X12_isSmall L) (fun r_4 u2' => ?_)
      have u2 : KG ad δ r_4.2 := u2'
      refine hs_ite (fun _ => ?_) (fun _ => ?_)
      · skip
        exact hs_mono (hj_X12_pass_39 L) (fun _ hr => u2.t (hr))
      · skip
        refine hs_bdv (fun δ_6 e3 => ?_)
        have u3 : KG ad δ δ_6 := KG.I u2 e3 (by decide) (by decide)
        exact hs_mono (ih δ_6) (fun _ hr => u3.t (hr))
theorem hf_X12_pass {ad : List Nat} {h : hp} (L : Lay TLx ad h) {N : Nat} {a0 : Nat}  {δ : dp} : hs (D_X12_pass N h.1 a0 δ) (fun r => KG ad δ r) := by
  unfold D_X12_pass
  exact hl_X12_pass_0 L N δ
theorem hj_X12_isDigit_17 {ad : List Nat} {h : hp} (L : Lay TLx ad h) {N : Nat} {x0 : Int32} {xs0 : Int32}  {δ : dp} : hs (J_X12_isDigit_17 N h.1 x0 xs0 δ) (fun r => KG ad δ r.2) := by
  unfold J_X12_isDigit_17
  refine hs_gp (fun gk1 => ?_)
  exact hs_some KG_r
theorem hj_X12_isDigit_16 {ad : List Nat} {h : hp} (L : Lay TLx ad h) {N : Nat} {x0 : Int32}  {δ : dp} : hs (J_X12_isDigit_16 N h.1 x0 δ) (fun r => KG ad δ r.2) := by
  unfold J_X12_isDigit_16
  exact hj_X12_isDigit_17 L
theorem hf_X12_isDigit {ad : List Nat} {h : hp} (L : Lay TLx ad h) {N : Nat} {x0 : Int32}  {δ : dp} : hs (D_X12_isDigit N h.1 x0 δ) (fun r => KG ad δ r.2) := by
  unfold D_X12_isDigit
  refine hs_ite (fun _ => ?_) (fun _ => ?_)
  · skip
    exact hj_X12_isDigit_16 L
  · skip
    refine hs_ite (fun _ => ?_) (fun _ => ?_)
    · skip
      exact hj_X12_isDigit_16 L
    · skip
      exact hj_X12_isDigit_17 L
theorem hj_X12_readNumber_124 {ad : List Nat} {h : hp} (L : Lay TLx ad h) {N : Nat} {a0 : Nat} {x1 : Int32} {x2 : Int32} {x4v : Int32}  {δ : dp} : hs (J_X12_readNumber_124 N h.1 a0 x1 x2 x4v δ) (fun r => KG ad δ r.2) := by
  unfold J_X12_readNumber_124
  refine hs_bind (hf_X12_wrong L) (fun r_10 u1' => ?_)
  have u1 : KG ad δ r_10 := u1'
  exact hs_some u1
theorem hj_X12_readNumber_112 {ad : List Nat} {h : hp} (L : Lay TLx ad h) {N : Nat} {a0 : Nat} {x1 : Int32} {x2 : Int32} {x4v : Int32} {x5v : Int32}  {δ : dp} : hs (J_X12_readNumber_112 N h.1 a0 x1 x2 x4v x5v δ) (fun r => KG ad δ r.2) := by
  unfold J_X12_readNumber_112
  refine hs_ite (fun _ => ?_) (fun _ => ?_)
  · skip
    exact hj_X12_readNumber_124 L
  · skip
    refine hs_ite (fun _ => ?_) (fun _ => ?_)
    · skip
      exact hs_some KG_r
    · skip
      exact hj_X12_readNumber_124 L
theorem hj_X12_readNumber_97 {ad : List Nat} {h : hp} (L : Lay TLx ad h) {N : Nat} {a0 : Nat} {x1 : Int32} {x2 : Int32} {kt41 : Int32 → Int32 → dp → Option (Int32 × dp)} {xs0 : Int32} {x4v : Int32} (h_kt41 : ∀ (y0 : Int32) (y1 : Int32) (δ1 : dp), hs (kt41 y0 y1 δ1) (fun r => KG ad δ1 r.2)) {δ : dp} : hs (J_X12_readNumber_97 N h.1 a0 x1 x2 kt41 xs0 x4v δ) (fun r => KG ad δ r.2) := by
  unfold J_X12_readNumber_97
  refine hs_bdv (fun δ_19 e1 => ?_)
  have u1 : KG ad δ δ_19 := KG.I KG_r e1 (by decide) (by decide)
  exact hs_mono (h_kt41 x4v xs0 δ_19) (fun _ hr => u1.t (hr))
theorem hl_X12_readNumber_41 {ad : List Nat} {h : hp} (L : Lay TLx ad h) {N : Nat} {a0 : Nat} {x1 : Int32} {x2 : Int32}  : ∀ (n : Nat) (x4v : Int32) (x5v : Int32) (δ : dp), hs (L_X12_readNumber_41 N h.1 a0 x1 x2 n x4v x5v δ) (fun r => KG ad δ r.2) := by
  intro n
  induction n with
  | zero => intro x4v x5v δ; unfold L_X12_readNumber_41; exact hs_none
  | succ n ih =>
    intro x4v x5v δ
    unfold L_X12_readNumber_41
    refine hs_ite (fun _ => ?_) (fun _ => ?_)
    · skip
      exact hj_X12_readNumber_112 L
    · skip
      refine hs_ob (fun b_12 hb_12 => ?_)
      refine hs_gd (fun gz1 => ?_)
      refine hs_bind (hf_X12_isDigit L) (fun r_14 u2' => ?_)
      have u2 : KG ad δ r_14.2 := u2'
      refine hs_ite (fun _ => ?_) (fun _ => ?_)
      · skip
        exact hs_mono (hj_X12_readNumber_112 L) (fun _ hr => u2.t (hr))
      · skip
        refine hs_ite (fun _ => ?_) (fun _ => ?_)
        · skip
          refine hs_ob (fun b_17 hb_17 => ?_)
          refine hs_gd (fun gz3 => ?_)
          exact hs_mono (hj_X12_readNumber_97 L ih) (fun _ hr => u2.t (hr))
        · skip
          exact hs_mono (hj_X12_readNumber_97 L ih) (fun _ hr => u2.t (hr))
theorem hf_X12_readNumber {ad : List Nat} {h : hp} (L : Lay TLx ad h) {N : Nat} {a0 : Nat} {x1 : Int32} {x2 : Int32}  {δ : dp} : hs (D_X12_readNumber N h.1 a0 x1 x2 δ) (fun r => KG ad δ r.2) := by
  unfold D_X12_readNumber
  refine hs_bind (hf_X12_fine L) (fun r_1 u1' => ?_)
  have u1 : KG ad δ r_1.2 := u1'
  refine hs_ite (fun _ => ?_) (fun _ => ?_)
  · skip
    exact hs_some u1
  · skip
    refine hs_bind (hf_X12_here L) (fun r_3 u2' => ?_)
    have u2 : KG ad δ r_3.2 := u1.t (u2')
    refine hs_biv (fun x_4 _ => ?_)
    refine hs_bind (hf_X12_isDigit L) (fun r_6 u3' => ?_)
    have u3 : KG ad δ r_6.2 := u2.t (u3')
    refine hs_ite (fun _ => ?_) (fun _ => ?_)
    · skip
      refine hs_bind (hf_X12_wrong L) (fun r_21 u4' => ?_)
      have u4 : KG ad δ r_21 := u3.t (u4')
      exact hs_some u4
    · skip
      exact hs_mono (hl_X12_readNumber_41 L N x_4 0 r_6.2) (fun _ hr => u3.t (hr))
theorem hj_X12_sign_41 {ad : List Nat} {h : hp} (L : Lay TLx ad h) {N : Nat} {a0 : Nat} {x1 : Int32}  {δ : dp} : hs (J_X12_sign_41 N h.1 a0 x1 δ) (fun r => KG ad δ r) := by
  unfold J_X12_sign_41
  exact hs_some KG_r
theorem hj_X12_sign_24 {ad : List Nat} {h : hp} (L : Lay TLx ad h) {N : Nat} {a0 : Nat} {x1 : Int32}  {δ : dp} : hs (J_X12_sign_24 N h.1 a0 x1 δ) (fun r => KG ad δ r) := by
  unfold J_X12_sign_24
  refine hs_bind (hf_X12_fine L) (fun r_3 u1' => ?_)
  have u1 : KG ad δ r_3.2 := u1'
  refine hs_ite (fun _ => ?_) (fun _ => ?_)
  · skip
    exact hs_mono (hj_X12_sign_41 L) (fun _ hr => u1.t (hr))
  · skip
    refine hs_bdv (fun δ_5 e2 => ?_)
    have u2 : KG ad δ δ_5 := KG.I u1 e2 (by decide) (by decide)
    exact hs_mono (hj_X12_sign_41 L) (fun _ hr => u2.t (hr))
theorem hf_X12_sign {ad : List Nat} {h : hp} (L : Lay TLx ad h) {N : Nat} {a0 : Nat} {x1 : Int32}  {δ : dp} : hs (D_X12_sign N h.1 a0 x1 δ) (fun r => KG ad δ r) := by
  unfold D_X12_sign
  refine hs_bind (hf_X12_fine L) (fun r_1 u1' => ?_)
  have u1 : KG ad δ r_1.2 := u1'
  refine hs_ite (fun _ => ?_) (fun _ => ?_)
  · skip
    exact hs_mono (hj_X12_sign_24 L) (fun _ hr => u1.t (hr))
  · skip
    refine hs_bind (hf_X12_here L) (fun r_7 u2' => ?_)
    have u2 : KG ad δ r_7.2 := u1.t (u2')
    refine hs_ite (fun _ => ?_) (fun _ => ?_)
    · skip
      exact hs_mono (hj_X12_sign_24 L) (fun _ hr => u2.t (hr))
    · skip
      refine hs_bind (hf_X12_wrong L) (fun r_9 u3' => ?_)
      have u3 : KG ad δ r_9 := u2.t (u3')
      exact hs_mono (hj_X12_sign_24 L) (fun _ hr => u3.t (hr))
theorem hj_X12_shape_258 {ad : List Nat} {h : hp} (L : Lay TLx ad h) {N : Nat} {x1 : Int32} {kt49 : Int32 → Int32 → Int32 → Int32 → dp → Option (Int32 × dp)} {x2v : Int32} {x3v : Int32} {x4v : Int32} {x5v : Int32} (h_kt49 : ∀ (y0 : Int32) (y1 : Int32) (y2 : Int32) (y3 : Int32) (δ1 : dp), hs (kt49 y0 y1 y2 y3 δ1) (fun r => FIN ad δ1 r)) {δ : dp} : hs (J_X12_shape_258 N h.1 (Ad ad 99) x1 kt49 x2v x3v x4v x5v δ) (fun r => FIN ad δ r) := by
  unfold J_X12_shape_258
  refine hs_bind (hf_X12_sign L) (fun r_59 u1' => ?_)
  have u1 : KG ad δ r_59 := u1'
  exact hs_mono (h_kt49 x2v x3v x4v x5v r_59) (fun _ hr => FIN_t u1 hr)
theorem hj_X12_shape_247 {ad : List Nat} {h : hp} (L : Lay TLx ad h) {N : Nat} {x1 : Int32} {kt49 : Int32 → Int32 → Int32 → Int32 → dp → Option (Int32 × dp)} {x2v : Int32} {x3v : Int32} {x4v : Int32} {x5v : Int32} (h_kt49 : ∀ (y0 : Int32) (y1 : Int32) (y2 : Int32) (y3 : Int32) (δ1 : dp), hs (kt49 y0 y1 y2 y3 δ1) (fun r => FIN ad δ1 r)) {δ : dp} : hs (J_X12_shape_247 N h.1 (Ad ad 99) x1 kt49 x2v x3v x4v x5v δ) (fun r => FIN ad δ r) := by
  unfold J_X12_shape_247
  refine hs_bind (hf_X12_fine L) (fun r_57 u1' => ?_)
  have u1 : KG ad δ r_57.2 := u1'
  refine hs_ite (fun _ => ?_) (fun _ => ?_)
  · skip
    exact hs_mono (hj_X12_shape_258 L h_kt49) (fun _ hr => FIN_t u1 hr)
  · skip
    refine hs_bind (hf_X12_pass L) (fun r_60 u2' => ?_)
    have u2 : KG ad δ r_60 := u1.t (u2')
    exact hs_mono (hj_X12_shape_258 L h_kt49) (fun _ hr => FIN_t u2 hr)
theorem hj_X12_shape_219 {ad : List Nat} {h : hp} (L : Lay TLx ad h) {N : Nat} {x1 : Int32} {kt49 : Int32 → Int32 → Int32 → Int32 → dp → Option (Int32 × dp)} {xs0 : Int32} {x2v : Int32} {x3v : Int32} {x5v : Int32} (h_kt49 : ∀ (y0 : Int32) (y1 : Int32) (y2 : Int32) (y3 : Int32) (δ1 : dp), hs (kt49 y0 y1 y2 y3 δ1) (fun r => FIN ad δ1 r)) {δ : dp} : hs (J_X12_shape_219 N h.1 (Ad ad 99) x1 kt49 xs0 x2v x3v x5v δ) (fun r => FIN ad δ r) := by
  unfold J_X12_shape_219
  refine hs_ite (fun _ => ?_) (fun _ => ?_)
  · skip
    refine hs_bind (hf_X12_word L) (fun r_61 u1' => ?_)
    have u1 : KG ad δ r_61.2 := u1'
    refine hs_bind (hf_X12_of L) (fun r_62 u2' => ?_)
    have u2 : KG ad δ r_62.2 := u1.t (u2')
    refine hs_ite (fun _ => ?_) (fun _ => ?_)
    · skip
      exact hs_mono (hj_X12_shape_247 L h_kt49) (fun _ hr => FIN_t u2 hr)
    · skip
      refine hs_bind (hf_X12_wrong L) (fun r_64 u3' => ?_)
      have u3 : KG ad δ r_64 := u2.t (u3')
      exact hs_mono (hj_X12_shape_247 L h_kt49) (fun _ hr => FIN_t u3 hr)
  · skip
    exact hj_X12_shape_247 L h_kt49
theorem hj_X12_shape_148 {ad : List Nat} {h : hp} (L : Lay TLx ad h) {N : Nat} {x1 : Int32} {kt49 : Int32 → Int32 → Int32 → Int32 → dp → Option (Int32 × dp)} {x2v : Int32} {x3v : Int32} {x4v : Int32} {x5v : Int32} {x6v : Int32} (h_kt49 : ∀ (y0 : Int32) (y1 : Int32) (y2 : Int32) (y3 : Int32) (δ1 : dp), hs (kt49 y0 y1 y2 y3 δ1) (fun r => FIN ad δ1 r)) {δ : dp} : hs (J_X12_shape_148 N h.1 (Ad ad 99) x1 kt49 x2v x3v x4v x5v x6v δ) (fun r => FIN ad δ r) := by
  unfold J_X12_shape_148
  refine hs_bind (hf_X12_fine L) (fun r_46 u1' => ?_)
  have u1 : KG ad δ r_46.2 := u1'
  refine hs_ite (fun _ => ?_) (fun _ => ?_)
  · skip
    exact hs_mono (hj_X12_shape_267 L) (fun _ hr => FIN_t u1 hr)
  · skip
    refine hs_biv (fun x_48 _ => ?_)
    refine hs_bind (hf_X12_pass L) (fun r_50 u2' => ?_)
    have u2 : KG ad δ r_50 := u1.t (u2')
    refine hs_ite (fun _ => ?_) (fun _ => ?_)
    · skip
      refine hs_bind (hf_X12_readNumber L) (fun r_66 u3' => ?_)
      have u3 : KG ad δ r_66.2 := u2.t (u3')
      exact hs_mono (hj_X12_shape_258 L h_kt49) (fun _ hr => FIN_t u3 hr)
    · skip
      refine hs_ite (fun _ => ?_) (fun _ => ?_)
      · skip
        refine hs_bind (hf_X12_readNumber L) (fun r_65 u4' => ?_)
        have u4 : KG ad δ r_65.2 := u2.t (u4')
        exact hs_mono (hj_X12_shape_258 L h_kt49) (fun _ hr => FIN_t u4 hr)
      · skip
        refine hs_bind (hf_X12_word L) (fun r_53 u5' => ?_)
        have u5 : KG ad δ r_53.2 := u2.t (u5')
        refine hs_bind (hf_X12_of L) (fun r_54 u6' => ?_)
        have u6 : KG ad δ r_54.2 := u5.t (u6')
        refine hs_ite (fun _ => ?_) (fun _ => ?_)
        · skip
          exact hs_mono (hj_X12_shape_219 L h_kt49) (fun _ hr => FIN_t u6 hr)
        · skip
          exact hs_mono (hj_X12_shape_219 L h_kt49) (fun _ hr => FIN_t u6 hr)
theorem hj_X12_shape_112 {ad : List Nat} {h : hp} (L : Lay TLx ad h) {N : Nat} {x1 : Int32} {kt49 : Int32 → Int32 → Int32 → Int32 → dp → Option (Int32 × dp)} {xs0 : Int32} {x2v : Int32} {x3v : Int32} {x4v : Int32} {x5v : Int32} (h_kt49 : ∀ (y0 : Int32) (y1 : Int32) (y2 : Int32) (y3 : Int32) (δ1 : dp), hs (kt49 y0 y1 y2 y3 δ1) (fun r => FIN ad δ1 r)) {δ : dp} : hs (J_X12_shape_112 N h.1 (Ad ad 99) x1 kt49 xs0 x2v x3v x4v x5v δ) (fun r => FIN ad δ r) := by
  unfold J_X12_shape_112
  refine hs_ite (fun _ => ?_) (fun _ => ?_)
  · skip
    refine hs_bind (hf_X12_wrong L) (fun r_68 u1' => ?_)
    have u1 : KG ad δ r_68 := u1'
    exact hs_mono (hj_X12_shape_148 L h_kt49) (fun _ hr => FIN_t u1 hr)
  · skip
    refine hs_ite (fun _ => ?_) (fun _ => ?_)
    · skip
      exact hj_X12_shape_148 L h_kt49
    · skip
      refine hs_bind (hf_X12_wrong L) (fun r_67 u2' => ?_)
      have u2 : KG ad δ r_67 := u2'
      exact hs_mono (hj_X12_shape_148 L h_kt49) (fun _ hr => FIN_t u2 hr)
theorem hl_X12_shape_49 {ad : List Nat} {h : hp} (L : Lay TLx ad h) {N : Nat} {x1 : Int32}  : ∀ (n : Nat) (x2v : Int32) (x3v : Int32) (x4v : Int32) (x5v : Int32) (δ : dp), hs (L_X12_shape_49 N h.1 (Ad ad 99) x1 n x2v x3v x4v x5v δ) (fun r => FIN ad δ r) := by
  intro n
  induction n with
  | zero => intro x2v x3v x4v x5v δ; unfold L_X12_shape_49; exact hs_none
  | succ n ih =>
    intro x2v x3v x4v x5v δ
    unfold L_X12_shape_49
    refine hs_bind (hf_X12_fine L) (fun r_7 u1' => ?_)
    have u1 : KG ad δ r_7.2 := u1'
    refine hs_ite (fun _ => ?_) (fun _ => ?_)
    · skip
      exact hs_mono (hj_X12_shape_267 L) (fun _ hr => FIN_t u1 hr)
    · skip
      refine hs_bind (hf_X12_isMore L) (fun r_33 u2' => ?_)
      have u2 : KG ad δ r_33.2 := u1.t (u2')
      refine hs_ite (fun _ => ?_) (fun _ => ?_)
      · skip
        exact hs_mono (hj_X12_shape_267 L) (fun _ hr => FIN_t u2 hr)
      · skip
        refine hs_bind (hf_X12_word L) (fun r_35 u3' => ?_)
        have u3 : KG ad δ r_35.2 := u2.t (u3')
        refine hs_bind (hf_X12_of L) (fun r_36 u4' => ?_)
        have u4 : KG ad δ r_36.2 := u3.t (u4')
        refine hs_ite (fun _ => ?_) (fun _ => ?_)
        · skip
          exact hs_mono (hj_X12_shape_112 L ih) (fun _ hr => FIN_t u4 hr)
        · skip
          refine hs_bind (hf_X12_word L) (fun r_38 u5' => ?_)
          have u5 : KG ad δ r_38.2 := u4.t (u5')
          refine hs_bind (hf_X12_of L) (fun r_39 u6' => ?_)
          have u6 : KG ad δ r_39.2 := u5.t (u6')
          refine hs_ite (fun _ => ?_) (fun _ => ?_)
          · skip
            exact hs_mono (hj_X12_shape_112 L ih) (fun _ hr => FIN_t u6 hr)
          · skip
            refine hs_bind (hf_X12_word L) (fun r_41 u7' => ?_)
            have u7 : KG ad δ r_41.2 := u6.t (u7')
            refine hs_bind (hf_X12_of L) (fun r_42 u8' => ?_)
            have u8 : KG ad δ r_42.2 := u7.t (u8')
            refine hs_ite (fun _ => ?_) (fun _ => ?_)
            · skip
              exact hs_mono (hj_X12_shape_112 L ih) (fun _ hr => FIN_t u8 hr)
            · skip
              exact hs_mono (hj_X12_shape_112 L ih) (fun _ hr => FIN_t u8 hr)
theorem hf_X12_begins {ad : List Nat} {h : hp} (L : Lay TLx ad h) {N : Nat} {a0 : Nat} {x1 : Int32}  {δ : dp} : hs (D_X12_begins N h.1 a0 x1 δ) (fun r => KG ad δ r) := by
  unfold D_X12_begins
  refine hs_bdv (fun δ_1 e1 => ?_)
  have u1 : KG ad δ δ_1 := KG.I KG_r e1 (by decide) (by decide)
  refine hs_bdv (fun δ_3 e2 => ?_)
  have u2 : KG ad δ δ_3 := KG.I u1 e2 (by decide) (by decide)
  refine hs_bdv (fun δ_5 e3 => ?_)
  have u3 : KG ad δ δ_5 := KG.I u2 e3 (by decide) (by decide)
  refine hs_bdv (fun δ_7 e4 => ?_)
  have u4 : KG ad δ δ_7 := KG.I u3 e4 (by decide) (by decide)
  refine hs_bdv (fun δ_9 e5 => ?_)
  have u5 : KG ad δ δ_9 := KG.I u4 e5 (by decide) (by decide)
  refine hs_bdv (fun δ_11 e6 => ?_)
  have u6 : KG ad δ δ_11 := KG.I u5 e6 (by decide) (by decide)
  exact hs_some u6
