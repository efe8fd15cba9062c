/-! frames (by gen_frame.py) -/
theorem hf_X11_need {ad : List Nat} {h : hp} (L : Lay TLx ad h) {N : Nat} {a0 : Nat} {x1 : Int32} (k11_a0 : q_K h.1 a0 = 11) {δ : dp} : hs (D_X11_need N h.1 a0 x1 δ) (fun r => HG true false ad δ r.2) := by
  unfold D_X11_need
  refine hs_ite (fun _ => ?_) (fun _ => ?_)
  · skip
    refine hs_ob (fun b_2 hb_2 => ?_)
    refine hs_gd (fun gz1 => ?_)
    refine hs_gd (fun gz2 => ?_)
    refine hs_bdv (fun δ_4 e3 => ?_)
    have u3 : HG true false ad δ δ_4 := HG.Z HG_r e3 (nq_11_13 L k11_a0 hb_2)
    exact hs_some u3
  · skip
    exact hs_some HG_r
theorem hj_X11_told_50 {ad : List Nat} {h : hp} (L : Lay TLx ad h) {N : Nat} {a0 : Nat} {x1 : Int32} {xs0 : Int32}  {δ : dp} : hs (J_X11_told_50 N h.1 a0 x1 xs0 δ) (fun r => HG true true ad δ r.2) := by
  unfold J_X11_told_50
  exact hs_some HG_r
theorem hj_X11_told_70 {ad : List Nat} {h : hp} (L : Lay TLx ad h) {N : Nat} {a0 : Nat} {x1 : Int32} {xs0 : Int32}  {δ : dp} : hs (J_X11_told_70 N h.1 a0 x1 xs0 δ) (fun r => HG true true ad δ r.2) := by
  unfold J_X11_told_70
  exact hs_some HG_r
theorem hj_X11_told_15 {ad : List Nat} {h : hp} (L : Lay TLx ad h) {N : Nat} {a0 : Nat} {x1 : Int32} {xs0 : Int32} {as1 : Nat} (k11_as1 : q_K h.1 as1 = 11) {δ : dp} : hs (J_X11_told_15 N h.1 a0 x1 xs0 as1 δ) (fun r => HG true false ad δ r.2) := by
  unfold J_X11_told_15
  refine hs_bxv (hf_X11_need L k11_as1) (fun _ _ u1' => u1') (fun δ_4 u1' => ?_)
  have u1 : HG true false ad δ δ_4 := u1'
  refine hs_ite (fun _ => ?_) (fun _ => ?_)
  · skip
    refine hs_ob (fun b_13 hb_13 => ?_)
    exact hs_some u1
  · skip
    refine hs_ite (fun _ => ?_) (fun _ => ?_)
    · skip
      refine hs_ob (fun b_10 hb_10 => ?_)
      refine hs_ite (fun _ => ?_) (fun _ => ?_)
      · skip
        exact hs_mono (hj_X11_told_50 L) (fun _ hr => u1.t ((hr).w (by decide) (by decide)))
      · skip
        exact hs_mono (hj_X11_told_50 L) (fun _ hr => u1.t ((hr).w (by decide) (by decide)))
    · skip
      refine hs_ite (fun _ => ?_) (fun _ => ?_)
      · skip
        refine hs_ob (fun b_8 hb_8 => ?_)
        exact hs_mono (hj_X11_told_70 L) (fun _ hr => u1.t ((hr).w (by decide) (by decide)))
      · skip
        exact hs_mono (hj_X11_told_70 L) (fun _ hr => u1.t ((hr).w (by decide) (by decide)))
theorem hj_X11_told_14 {ad : List Nat} {h : hp} (L : Lay TLx ad h) {N : Nat} {a0 : Nat} {x1 : Int32} {as0 : Nat} (k11_as0 : q_K h.1 as0 = 11) {δ : dp} : hs (J_X11_told_14 N h.1 a0 x1 as0 δ) (fun r => HG true false ad δ r.2) := by
  unfold J_X11_told_14
  exact hj_X11_told_15 L k11_as0
theorem hf_X11_told {ad : List Nat} {h : hp} (L : Lay TLx ad h) {N : Nat} {a0 : Nat} {x1 : Int32} (k11_a0 : q_K h.1 a0 = 11) {δ : dp} : hs (D_X11_told N h.1 a0 x1 δ) (fun r => HG true false ad δ r.2) := by
  unfold D_X11_told
  refine hs_ite (fun _ => ?_) (fun _ => ?_)
  · skip
    exact hj_X11_told_14 L k11_a0
  · skip
    refine hs_ite (fun _ => ?_) (fun _ => ?_)
    · skip
      exact hj_X11_told_14 L k11_a0
    · skip
      exact hj_X11_told_15 L k11_a0
theorem hj_X11_needHouse_9 {ad : List Nat} {h : hp} (L : Lay TLx ad h) {N : Nat} {a0 : Nat} {x1 : Int32} (k11_a0 : q_K h.1 a0 = 11) {δ : dp} : hs (J_X11_needHouse_9 N h.1 a0 x1 δ) (fun r => HG true false ad δ r.2) := by
  unfold J_X11_needHouse_9
  refine hs_ob (fun b_2 hb_2 => ?_)
  refine hs_gd (fun gz1 => ?_)
  refine hs_gd (fun gz2 => ?_)
  refine hs_bdv (fun δ_4 e3 => ?_)
  have u3 : HG true false ad δ δ_4 := HG.Z HG_r e3 (nq_11_13 L k11_a0 hb_2)
  exact hs_some u3
theorem hf_X11_needHouse {ad : List Nat} {h : hp} (L : Lay TLx ad h) {N : Nat} {a0 : Nat} {x1 : Int32} (k11_a0 : q_K h.1 a0 = 11) {δ : dp} : hs (D_X11_needHouse N h.1 a0 x1 δ) (fun r => HG true false ad δ r.2) := by
  unfold D_X11_needHouse
  refine hs_ite (fun _ => ?_) (fun _ => ?_)
  · skip
    exact hj_X11_needHouse_9 L k11_a0
  · skip
    refine hs_ite (fun _ => ?_) (fun _ => ?_)
    · skip
      exact hs_some HG_r
    · skip
      exact hj_X11_needHouse_9 L k11_a0
theorem hf_X5_greatest {ad : List Nat} {h : hp} (L : Lay TLx ad h) {N : Nat} {a0 : Nat}  {δ : dp} : hs (D_X5_greatest N h.1 a0 δ) (fun r => HG true true ad δ r.2) := by
  unfold D_X5_greatest
  exact hs_some HG_r
theorem hj_X11_isNumber_20 {ad : List Nat} {h : hp} (L : Lay TLx ad h) {N : Nat} {a0 : Nat} {x1 : Int32} {xs0 : Int32}  {δ : dp} : hs (J_X11_isNumber_20 N h.1 a0 x1 xs0 δ) (fun r => HG true true ad δ r.2) := by
  unfold J_X11_isNumber_20
  refine hs_gp (fun gk1 => ?_)
  exact hs_some HG_r
theorem hj_X11_isNumber_19 {ad : List Nat} {h : hp} (L : Lay TLx ad h) {N : Nat} {a0 : Nat} {x1 : Int32}  {δ : dp} : hs (J_X11_isNumber_19 N h.1 a0 x1 δ) (fun r => HG true true ad δ r.2) := by
  unfold J_X11_isNumber_19
  exact hj_X11_isNumber_20 L
theorem hf_X11_isNumber {ad : List Nat} {h : hp} (L : Lay TLx ad h) {N : Nat} {a0 : Nat} {x1 : Int32}  {δ : dp} : hs (D_X11_isNumber N h.1 a0 x1 δ) (fun r => HG true true ad δ r.2) := by
  unfold D_X11_isNumber
  refine hs_ite (fun _ => ?_) (fun _ => ?_)
  · skip
    exact hj_X11_isNumber_19 L
  · skip
    refine hs_ob (fun b_2 hb_2 => ?_)
    refine hs_bind (hf_X5_greatest L) (fun r_4 u1' => ?_)
    have u1 : HG true true ad δ r_4.2 := u1'
    refine hs_ite (fun _ => ?_) (fun _ => ?_)
    · skip
      exact hs_mono (hj_X11_isNumber_19 L) (fun _ hr => u1.t (hr))
    · skip
      exact hs_mono (hj_X11_isNumber_20 L) (fun _ hr => u1.t (hr))
theorem hf_X11_needNumber {ad : List Nat} {h : hp} (L : Lay TLx ad h) {N : Nat} {a0 : Nat} {x1 : Int32} (k11_a0 : q_K h.1 a0 = 11) {δ : dp} : hs (D_X11_needNumber N h.1 a0 x1 δ) (fun r => HG true false ad δ r.2) := by
  unfold D_X11_needNumber
  refine hs_bind (hf_X11_isNumber L) (fun r_1 u1' => ?_)
  have u1 : HG true false ad δ r_1.2 := (u1').w (by decide) (by decide)
  refine hs_bxv (hf_X11_need L k11_a0) (fun _ _ u2' => u1.t (u2')) (fun δ_4 u2' => ?_)
  have u2 : HG true false ad δ δ_4 := u1.t (u2')
  exact hs_some u2
theorem hj_X3_firstFrom_41 {ad : List Nat} {h : hp} (L : Lay TLx ad h) {N : Nat} {a0 : Nat} {x1 : Int32} {kt7 : Int32 → Int32 → dp → Option (Int32 × dp)} {x2v : Int32} {x3v : Int32} (h_kt7 : ∀ (y0 : Int32) (y1 : Int32) (δ1 : dp), hs (kt7 y0 y1 δ1) (fun r => HG true true ad δ1 r.2)) {δ : dp} : hs (J_X3_firstFrom_41 N h.1 a0 x1 kt7 x2v x3v δ) (fun r => HG true true ad δ r.2) := by
  unfold J_X3_firstFrom_41
  exact h_kt7 x2v x3v δ
theorem hl_X3_firstFrom_7 {ad : List Nat} {h : hp} (L : Lay TLx ad h) {N : Nat} {a0 : Nat} {x1 : Int32}  : ∀ (n : Nat) (x2v : Int32) (x3v : Int32) (δ : dp), hs (L_X3_firstFrom_7 N h.1 a0 x1 n x2v x3v δ) (fun r => HG true true ad δ r.2) := by
  intro n
  induction n with
  | zero => intro x2v x3v δ; unfold L_X3_firstFrom_7; exact hs_none
  | succ n ih =>
    intro x2v x3v δ
    unfold L_X3_firstFrom_7
    refine hs_ite (fun _ => ?_) (fun _ => ?_)
    · skip
      exact hs_some HG_r
    · skip
      refine hs_biv (fun x_4 _ => ?_)
      refine hs_ob (fun b_6 hb_6 => ?_)
      refine hs_gd (fun gz1 => ?_)
      refine hs_ite (fun _ => ?_) (fun _ => ?_)
      · skip
        exact hj_X3_firstFrom_41 L ih
      · skip
        refine hs_biv (fun x_9 _ => ?_)
        exact hj_X3_firstFrom_41 L ih
theorem hf_X3_firstFrom {ad : List Nat} {h : hp} (L : Lay TLx ad h) {N : Nat} {a0 : Nat} {x1 : Int32}  {δ : dp} : hs (D_X3_firstFrom N h.1 a0 x1 δ) (fun r => HG true true ad δ r.2) := by
  unfold D_X3_firstFrom
  refine hs_biv (fun x_1 _ => ?_)
  exact hl_X3_firstFrom_7 L N 0 x_1 δ
theorem hj_X3_holds_29 {ad : List Nat} {h : hp} (L : Lay TLx ad h) {N : Nat} {a0 : Nat} {x1 : Int32} {xs0 : Int32}  {δ : dp} : hs (J_X3_holds_29 N h.1 a0 x1 xs0 δ) (fun r => HG true true ad δ r.2) := by
  unfold J_X3_holds_29
  refine hs_gp (fun gk1 => ?_)
  exact hs_some HG_r
theorem hj_X3_holds_28 {ad : List Nat} {h : hp} (L : Lay TLx ad h) {N : Nat} {a0 : Nat} {x1 : Int32}  {δ : dp} : hs (J_X3_holds_28 N h.1 a0 x1 δ) (fun r => HG true true ad δ r.2) := by
  unfold J_X3_holds_28
  exact hj_X3_holds_29 L
theorem hf_X3_holds {ad : List Nat} {h : hp} (L : Lay TLx ad h) {N : Nat} {a0 : Nat} {x1 : Int32}  {δ : dp} : hs (D_X3_holds N h.1 a0 x1 δ) (fun r => HG true true ad δ r.2) := by
  unfold D_X3_holds
  refine hs_bind (hf_X3_firstFrom L) (fun r_1 u1' => ?_)
  have u1 : HG true true ad δ r_1.2 := u1'
  refine hs_ite (fun _ => ?_) (fun _ => ?_)
  · skip
    exact hs_mono (hj_X3_holds_28 L) (fun _ hr => u1.t (hr))
  · skip
    refine hs_ob (fun b_3 hb_3 => ?_)
    refine hs_gd (fun gz2 => ?_)
    refine hs_ite (fun _ => ?_) (fun _ => ?_)
    · skip
      exact hs_mono (hj_X3_holds_29 L) (fun _ hr => u1.t (hr))
    · skip
      exact hs_mono (hj_X3_holds_28 L) (fun _ hr => u1.t (hr))
theorem hf_X11_has {ad : List Nat} {h : hp} (L : Lay TLx ad h) {N : Nat} {a0 : Nat} {x1 : Int32} {x2 : Int32} (k11_a0 : q_K h.1 a0 = 11) {δ : dp} : hs (D_X11_has N h.1 a0 x1 x2 δ) (fun r => HG true false ad δ r.2) := by
  unfold D_X11_has
  refine hs_bxv (hf_X11_needHouse L k11_a0) (fun _ _ u1' => u1') (fun δ_3 u1' => ?_)
  have u1 : HG true false ad δ δ_3 := u1'
  refine hs_bxv (hf_X11_needNumber L k11_a0) (fun _ _ u2' => u1.t (u2')) (fun δ_6 u2' => ?_)
  have u2 : HG true false ad δ δ_6 := u1.t (u2')
  refine hs_ob (fun b_7 hb_7 => ?_)
  refine hs_gd (fun gz3 => ?_)
  refine hs_ob (fun b_9 hb_9 => ?_)
  refine hs_ob (fun b_11 hb_11 => ?_)
  refine hs_bind (hf_X3_holds L) (fun r_13 u4' => ?_)
  have u4 : HG true false ad δ r_13.2 := u2.t ((u4').w (by decide) (by decide))
  refine hs_gp (fun gk5 => ?_)
  exact hs_some u4
theorem hj_X3_at_22 {ad : List Nat} {h : hp} (L : Lay TLx ad h) {N : Nat} {a0 : Nat} {x1 : Int32} {xs0 : Int32}  {δ : dp} : hs (J_X3_at_22 N h.1 a0 x1 xs0 δ) (fun r => HG true true ad δ r.2) := by
  unfold J_X3_at_22
  exact hs_some HG_r
theorem hj_X3_at_12 {ad : List Nat} {h : hp} (L : Lay TLx ad h) {N : Nat} {a0 : Nat} {x1 : Int32}  {δ : dp} : hs (J_X3_at_12 N h.1 a0 x1 δ) (fun r => HG true true ad δ r.2) := by
  unfold J_X3_at_12
  exact hj_X3_at_22 L
theorem hf_X3_at {ad : List Nat} {h : hp} (L : Lay TLx ad h) {N : Nat} {a0 : Nat} {x1 : Int32}  {δ : dp} : hs (D_X3_at N h.1 a0 x1 δ) (fun r => HG true true ad δ r.2) := by
  unfold D_X3_at
  refine hs_ite (fun _ => ?_) (fun _ => ?_)
  · skip
    exact hj_X3_at_12 L
  · skip
    refine hs_ite (fun _ => ?_) (fun _ => ?_)
    · skip
      refine hs_ob (fun b_3 hb_3 => ?_)
      refine hs_gd (fun gz1 => ?_)
      exact hj_X3_at_22 L
    · skip
      exact hj_X3_at_12 L
theorem hj_X3_tell_34 {ad : List Nat} {h : hp} (L : Lay TLx ad h) {N : Nat} {a0 : Nat} {x1 : Int32} {xs0 : Int32}  {δ : dp} : hs (J_X3_tell_34 N h.1 a0 x1 xs0 δ) (fun r => HG true true ad δ r.2) := by
  unfold J_X3_tell_34
  exact hs_some HG_r
theorem hf_X3_tell {ad : List Nat} {h : hp} (L : Lay TLx ad h) {N : Nat} {a0 : Nat} {x1 : Int32}  {δ : dp} : hs (D_X3_tell N h.1 a0 x1 δ) (fun r => HG true true ad δ r.2) := by
  unfold D_X3_tell
  refine hs_ite (fun _ => ?_) (fun _ => ?_)
  · skip
    exact hj_X3_tell_34 L
  · skip
    refine hs_ite (fun _ => ?_) (fun _ => ?_)
    · skip
      refine hs_bind (hf_X3_at L) (fun r_4 u1' => ?_)
      have u1 : HG true true ad δ r_4.2 := u1'
      exact hs_mono (hj_X3_tell_34 L) (fun _ hr => u1.t (hr))
    · skip
      refine hs_bind (hf_X3_at L) (fun r_3 u2' => ?_)
      have u2 : HG true true ad δ r_3.2 := u2'
      exact hs_mono (hj_X3_tell_34 L) (fun _ hr => u2.t (hr))
theorem hj_X11_of_53 {ad : List Nat} {h : hp} (L : Lay TLx ad h) {N : Nat} {a0 : Nat} {x1 : Int32} {x2 : Int32} {xs0 : Int32}  {δ : dp} : hs (J_X11_of_53 N h.1 a0 x1 x2 xs0 δ) (fun r => HG true true ad δ r.2) := by
  unfold J_X11_of_53
  exact hs_some HG_r
theorem hj_X11_of_20 {ad : List Nat} {h : hp} (L : Lay TLx ad h) {N : Nat} {a0 : Nat} {x1 : Int32} {x2 : Int32} {xs0 : Int32} {as1 : Nat} (k11_as1 : q_K h.1 as1 = 11) {δ : dp} : hs (J_X11_of_20 N h.1 a0 x1 x2 xs0 as1 δ) (fun r => HG true false ad δ r.2) := by
  unfold J_X11_of_20
  refine hs_bxv (hf_X11_need L k11_as1) (fun _ _ u1' => u1') (fun δ_7 u1' => ?_)
  have u1 : HG true false ad δ δ_7 := u1'
  refine hs_ite (fun _ => ?_) (fun _ => ?_)
  · skip
    refine hs_ob (fun b_16 hb_16 => ?_)
    refine hs_gd (fun gz2 => ?_)
    refine hs_ob (fun b_18 hb_18 => ?_)
    exact hs_mono (hj_X11_of_53 L) (fun _ hr => u1.t ((hr).w (by decide) (by decide)))
  · skip
    refine hs_ob (fun b_9 hb_9 => ?_)
    refine hs_gd (fun gz3 => ?_)
    refine hs_ob (fun b_11 hb_11 => ?_)
    refine hs_ob (fun b_13 hb_13 => ?_)
    refine hs_bind (hf_X3_tell L) (fun r_15 u4' => ?_)
    have u4 : HG true false ad δ r_15.2 := u1.t ((u4').w (by decide) (by decide))
    exact hs_mono (hj_X11_of_53 L) (fun _ hr => u4.t ((hr).w (by decide) (by decide)))
theorem hj_X11_of_19 {ad : List Nat} {h : hp} (L : Lay TLx ad h) {N : Nat} {a0 : Nat} {x1 : Int32} {x2 : Int32} {as0 : Nat} (k11_as0 : q_K h.1 as0 = 11) {δ : dp} : hs (J_X11_of_19 N h.1 a0 x1 x2 as0 δ) (fun r => HG true false ad δ r.2) := by
  unfold J_X11_of_19
  exact hj_X11_of_20 L k11_as0
theorem hf_X11_of {ad : List Nat} {h : hp} (L : Lay TLx ad h) {N : Nat} {a0 : Nat} {x1 : Int32} {x2 : Int32} (k11_a0 : q_K h.1 a0 = 11) {δ : dp} : hs (D_X11_of N h.1 a0 x1 x2 δ) (fun r => HG true false ad δ r.2) := by
  unfold D_X11_of
  refine hs_bxv (hf_X11_needHouse L k11_a0) (fun _ _ u1' => u1') (fun δ_3 u1' => ?_)
  have u1 : HG true false ad δ δ_3 := u1'
  refine hs_ite (fun _ => ?_) (fun _ => ?_)
  · skip
    exact hs_mono (hj_X11_of_19 L k11_a0) (fun _ hr => u1.t (hr))
  · skip
    refine hs_ite (fun _ => ?_) (fun _ => ?_)
    · skip
      exact hs_mono (hj_X11_of_19 L k11_a0) (fun _ hr => u1.t (hr))
    · skip
      exact hs_mono (hj_X11_of_20 L k11_a0) (fun _ hr => u1.t (hr))
theorem hj_X11_mayAsk_41 {ad : List Nat} {h : hp} (L : Lay TLx ad h) {N : Nat} {a0 : Nat} {x1 : Int32} {x2 : Int32} {xs0 : Int32}  {δ : dp} : hs (J_X11_mayAsk_41 N h.1 a0 x1 x2 xs0 δ) (fun r => HG true true ad δ r.2) := by
  unfold J_X11_mayAsk_41
  refine hs_gp (fun gk1 => ?_)
  exact hs_some HG_r
theorem hj_X11_mayAsk_36 {ad : List Nat} {h : hp} (L : Lay TLx ad h) {N : Nat} {a0 : Nat} {x1 : Int32} {x2 : Int32}  {δ : dp} : hs (J_X11_mayAsk_36 N h.1 a0 x1 x2 δ) (fun r => HG true true ad δ r.2) := by
  unfold J_X11_mayAsk_36
  exact hj_X11_mayAsk_41 L
theorem hj_X11_mayAsk_40 {ad : List Nat} {h : hp} (L : Lay TLx ad h) {N : Nat} {a0 : Nat} {x1 : Int32} {x2 : Int32}  {δ : dp} : hs (J_X11_mayAsk_40 N h.1 a0 x1 x2 δ) (fun r => HG true true ad δ r.2) := by
  unfold J_X11_mayAsk_40
  exact hj_X11_mayAsk_41 L
theorem hj_X11_mayAsk_18 {ad : List Nat} {h : hp} (L : Lay TLx ad h) {N : Nat} {a0 : Nat} {x1 : Int32} {x2 : Int32}  {δ : dp} : hs (J_X11_mayAsk_18 N h.1 a0 x1 x2 δ) (fun r => HG true true ad δ r.2) := by
  unfold J_X11_mayAsk_18
  refine hs_ite (fun _ => ?_) (fun _ => ?_)
  · skip
    refine hs_ob (fun b_5 hb_5 => ?_)
    refine hs_bind (hf_X5_greatest L) (fun r_7 u1' => ?_)
    have u1 : HG true true ad δ r_7.2 := u1'
    refine hs_ite (fun _ => ?_) (fun _ => ?_)
    · skip
      exact hs_mono (hj_X11_mayAsk_36 L) (fun _ hr => u1.t (hr))
    · skip
      exact hs_mono (hj_X11_mayAsk_40 L) (fun _ hr => u1.t (hr))
  · skip
    exact hj_X11_mayAsk_40 L
theorem hf_X11_mayAsk {ad : List Nat} {h : hp} (L : Lay TLx ad h) {N : Nat} {a0 : Nat} {x1 : Int32} {x2 : Int32}  {δ : dp} : hs (D_X11_mayAsk N h.1 a0 x1 x2 δ) (fun r => HG true true ad δ r.2) := by
  unfold D_X11_mayAsk
  refine hs_bind (hf_X11_isNumber L) (fun r_1 u1' => ?_)
  have u1 : HG true true ad δ r_1.2 := u1'
  refine hs_ite (fun _ => ?_) (fun _ => ?_)
  · skip
    refine hs_ite (fun _ => ?_) (fun _ => ?_)
    · skip
      refine hs_ite (fun _ => ?_) (fun _ => ?_)
      · skip
        exact hs_mono (hj_X11_mayAsk_36 L) (fun _ hr => u1.t (hr))
      · skip
        exact hs_mono (hj_X11_mayAsk_18 L) (fun _ hr => u1.t (hr))
    · skip
      exact hs_mono (hj_X11_mayAsk_18 L) (fun _ hr => u1.t (hr))
  · skip
    exact hs_mono (hj_X11_mayAsk_36 L) (fun _ hr => u1.t (hr))
theorem hf_X3_above {ad : List Nat} {h : hp} (L : Lay TLx ad h) {N : Nat} {a0 : Nat} {x1 : Int32}  {δ : dp} : hs (D_X3_above N h.1 a0 x1 δ) (fun r => HG true true ad δ r.2) := by
  unfold D_X3_above
  refine hs_bind (hf_X3_firstFrom L) (fun r_1 u1' => ?_)
  have u1 : HG true true ad δ r_1.2 := u1'
  refine hs_bind (hf_X3_at L) (fun r_2 u2' => ?_)
  have u2 : HG true true ad δ r_2.2 := u1.t (u2')
  exact hs_some u2
theorem hf_X11_next {ad : List Nat} {h : hp} (L : Lay TLx ad h) {N : Nat} {a0 : Nat} {x1 : Int32} {x2 : Int32} (k11_a0 : q_K h.1 a0 = 11) {δ : dp} : hs (D_X11_next N h.1 a0 x1 x2 δ) (fun r => HG true false ad δ r.2) := by
  unfold D_X11_next
  refine hs_bxv (hf_X11_needHouse L k11_a0) (fun _ _ u1' => u1') (fun δ_3 u1' => ?_)
  have u1 : HG true false ad δ δ_3 := u1'
  refine hs_bind (hf_X11_mayAsk L) (fun r_4 u2' => ?_)
  have u2 : HG true false ad δ r_4.2 := u1.t ((u2').w (by decide) (by decide))
  refine hs_bxv (hf_X11_need L k11_a0) (fun _ _ u3' => u2.t (u3')) (fun δ_7 u3' => ?_)
  have u3 : HG true false ad δ δ_7 := u2.t (u3')
  refine hs_ob (fun b_8 hb_8 => ?_)
  refine hs_gd (fun gz4 => ?_)
  refine hs_ob (fun b_10 hb_10 => ?_)
  refine hs_ob (fun b_12 hb_12 => ?_)
  refine hs_bind (hf_X3_above L) (fun r_14 u5' => ?_)
  have u5 : HG true false ad δ r_14.2 := u3.t ((u5').w (by decide) (by decide))
  exact hs_some u5
theorem hf_X3_below {ad : List Nat} {h : hp} (L : Lay TLx ad h) {N : Nat} {a0 : Nat} {x1 : Int32}  {δ : dp} : hs (D_X3_below N h.1 a0 x1 δ) (fun r => HG true true ad δ r.2) := by
  unfold D_X3_below
  refine hs_bind (hf_X3_firstFrom L) (fun r_1 u1' => ?_)
  have u1 : HG true true ad δ r_1.2 := u1'
  refine hs_bind (hf_X3_at L) (fun r_2 u2' => ?_)
  have u2 : HG true true ad δ r_2.2 := u1.t (u2')
  exact hs_some u2
theorem hf_X11_before {ad : List Nat} {h : hp} (L : Lay TLx ad h) {N : Nat} {a0 : Nat} {x1 : Int32} {x2 : Int32} (k11_a0 : q_K h.1 a0 = 11) {δ : dp} : hs (D_X11_before N h.1 a0 x1 x2 δ) (fun r => HG true false ad δ r.2) := by
  unfold D_X11_before
  refine hs_bxv (hf_X11_needHouse L k11_a0) (fun _ _ u1' => u1') (fun δ_3 u1' => ?_)
  have u1 : HG true false ad δ δ_3 := u1'
  refine hs_bind (hf_X11_mayAsk L) (fun r_4 u2' => ?_)
  have u2 : HG true false ad δ r_4.2 := u1.t ((u2').w (by decide) (by decide))
  refine hs_bxv (hf_X11_need L k11_a0) (fun _ _ u3' => u2.t (u3')) (fun δ_7 u3' => ?_)
  have u3 : HG true false ad δ δ_7 := u2.t (u3')
  refine hs_ob (fun b_8 hb_8 => ?_)
  refine hs_gd (fun gz4 => ?_)
  refine hs_ob (fun b_10 hb_10 => ?_)
  refine hs_ob (fun b_12 hb_12 => ?_)
  refine hs_bind (hf_X3_below L) (fun r_14 u5' => ?_)
  have u5 : HG true false ad δ r_14.2 := u3.t ((u5').w (by decide) (by decide))
  exact hs_some u5
theorem hf_X11_kth {ad : List Nat} {h : hp} (L : Lay TLx ad h) {N : Nat} {a0 : Nat} {x1 : Int32} {x2 : Int32} (k11_a0 : q_K h.1 a0 = 11) {δ : dp} : hs (D_X11_kth N h.1 a0 x1 x2 δ) (fun r => HG true false ad δ r.2) := by
  unfold D_X11_kth
  refine hs_bxv (hf_X11_needHouse L k11_a0) (fun _ _ u1' => u1') (fun δ_3 u1' => ?_)
  have u1 : HG true false ad δ δ_3 := u1'
  refine hs_ob (fun b_4 hb_4 => ?_)
  refine hs_gd (fun gz2 => ?_)
  refine hs_ob (fun b_6 hb_6 => ?_)
  refine hs_ob (fun b_8 hb_8 => ?_)
  refine hs_bind (hf_X3_at L) (fun r_10 u3' => ?_)
  have u3 : HG true false ad δ r_10.2 := u1.t ((u3').w (by decide) (by decide))
  exact hs_some u3
theorem hj_X11_between_65 {ad : List Nat} {h : hp} (L : Lay TLx ad h) {N : Nat} {a0 : Nat} {x1 : Int32} {x2 : Int32} {x3 : Int32} {xs0 : Int32}  {δ : dp} : hs (J_X11_between_65 N h.1 a0 x1 x2 x3 xs0 δ) (fun r => HG true true ad δ r.2) := by
  unfold J_X11_between_65
  exact hs_some HG_r
theorem hj_X11_between_27 {ad : List Nat} {h : hp} (L : Lay TLx ad h) {N : Nat} {a0 : Nat} {x1 : Int32} {x2 : Int32} {x3 : Int32} {xs0 : Int32} {as1 : Nat} (k11_as1 : q_K h.1 as1 = 11) {δ : dp} : hs (J_X11_between_27 N h.1 a0 x1 x2 x3 xs0 as1 δ) (fun r => HG true false ad δ r.2) := by
  unfold J_X11_between_27
  refine hs_bxv (hf_X11_need L k11_as1) (fun _ _ u1' => u1') (fun δ_8 u1' => ?_)
  have u1 : HG true false ad δ δ_8 := u1'
  refine hs_ob (fun b_9 hb_9 => ?_)
  refine hs_gd (fun gz2 => ?_)
  refine hs_ob (fun b_11 hb_11 => ?_)
  refine hs_ob (fun b_13 hb_13 => ?_)
  refine hs_ite (fun _ => ?_) (fun _ => ?_)
  · skip
    refine hs_bind (hf_X3_firstFrom L) (fun r_16 u3' => ?_)
    have u3 : HG true false ad δ r_16.2 := u1.t ((u3').w (by decide) (by decide))
    refine hs_bind (hf_X3_firstFrom L) (fun r_17 u4' => ?_)
    have u4 : HG true false ad δ r_17.2 := u3.t ((u4').w (by decide) (by decide))
    exact hs_mono (hj_X11_between_65 L) (fun _ hr => u4.t ((hr).w (by decide) (by decide)))
  · skip
    exact hs_mono (hj_X11_between_65 L) (fun _ hr => u1.t ((hr).w (by decide) (by decide)))
theorem hj_X11_between_26 {ad : List Nat} {h : hp} (L : Lay TLx ad h) {N : Nat} {a0 : Nat} {x1 : Int32} {x2 : Int32} {x3 : Int32} {as0 : Nat} (k11_as0 : q_K h.1 as0 = 11) {δ : dp} : hs (J_X11_between_26 N h.1 a0 x1 x2 x3 as0 δ) (fun r => HG true false ad δ r.2) := by
  unfold J_X11_between_26
  exact hj_X11_between_27 L k11_as0
theorem hf_X11_between {ad : List Nat} {h : hp} (L : Lay TLx ad h) {N : Nat} {a0 : Nat} {x1 : Int32} {x2 : Int32} {x3 : Int32} (k11_a0 : q_K h.1 a0 = 11) {δ : dp} : hs (D_X11_between N h.1 a0 x1 x2 x3 δ) (fun r => HG true false ad δ r.2) := by
  unfold D_X11_between
  refine hs_bxv (hf_X11_needHouse L k11_a0) (fun _ _ u1' => u1') (fun δ_3 u1' => ?_)
  have u1 : HG true false ad δ δ_3 := u1'
  refine hs_bind (hf_X11_isNumber L) (fun r_4 u2' => ?_)
  have u2 : HG true false ad δ r_4.2 := u1.t ((u2').w (by decide) (by decide))
  refine hs_ite (fun _ => ?_) (fun _ => ?_)
  · skip
    exact hs_mono (hj_X11_between_26 L k11_a0) (fun _ hr => u2.t (hr))
  · skip
    refine hs_bind (hf_X11_isNumber L) (fun r_18 u3' => ?_)
    have u3 : HG true false ad δ r_18.2 := u2.t ((u3').w (by decide) (by decide))
    refine hs_ite (fun _ => ?_) (fun _ => ?_)
    · skip
      exact hs_mono (hj_X11_between_26 L k11_a0) (fun _ hr => u3.t (hr))
    · skip
      exact hs_mono (hj_X11_between_27 L k11_a0) (fun _ hr => u3.t (hr))
theorem hj_X11_isCall_14 {ad : List Nat} {h : hp} (L : Lay TLx ad h) {N : Nat} {x0 : Int32} {xs0 : Int32}  {δ : dp} : hs (J_X11_isCall_14 N h.1 x0 xs0 δ) (fun r => HG true true ad δ r.2) := by
  unfold J_X11_isCall_14
  refine hs_gp (fun gk1 => ?_)
  exact hs_some HG_r
theorem hj_X11_isCall_13 {ad : List Nat} {h : hp} (L : Lay TLx ad h) {N : Nat} {x0 : Int32}  {δ : dp} : hs (J_X11_isCall_13 N h.1 x0 δ) (fun r => HG true true ad δ r.2) := by
  unfold J_X11_isCall_13
  exact hj_X11_isCall_14 L
theorem hf_X11_isCall {ad : List Nat} {h : hp} (L : Lay TLx ad h) {N : Nat} {x0 : Int32}  {δ : dp} : hs (D_X11_isCall N h.1 x0 δ) (fun r => HG true true ad δ r.2) := by
  unfold D_X11_isCall
  refine hs_ite (fun _ => ?_) (fun _ => ?_)
  · skip
    exact hj_X11_isCall_13 L
  · skip
    refine hs_ite (fun _ => ?_) (fun _ => ?_)
    · skip
      exact hj_X11_isCall_13 L
    · skip
      exact hj_X11_isCall_14 L
theorem hj_X11_isKind_14 {ad : List Nat} {h : hp} (L : Lay TLx ad h) {N : Nat} {x0 : Int32} {xs0 : Int32}  {δ : dp} : hs (J_X11_isKind_14 N h.1 x0 xs0 δ) (fun r => HG true true ad δ r.2) := by
  unfold J_X11_isKind_14
  refine hs_gp (fun gk1 => ?_)
  exact hs_some HG_r
theorem hj_X11_isKind_13 {ad : List Nat} {h : hp} (L : Lay TLx ad h) {N : Nat} {x0 : Int32}  {δ : dp} : hs (J_X11_isKind_13 N h.1 x0 δ) (fun r => HG true true ad δ r.2) := by
  unfold J_X11_isKind_13
  exact hj_X11_isKind_14 L
theorem hf_X11_isKind {ad : List Nat} {h : hp} (L : Lay TLx ad h) {N : Nat} {x0 : Int32}  {δ : dp} : hs (D_X11_isKind N h.1 x0 δ) (fun r => HG true true ad δ r.2) := by
  unfold D_X11_isKind
  refine hs_ite (fun _ => ?_) (fun _ => ?_)
  · skip
    exact hj_X11_isKind_13 L
  · skip
    refine hs_ite (fun _ => ?_) (fun _ => ?_)
    · skip
      exact hj_X11_isKind_13 L
    · skip
      exact hj_X11_isKind_14 L
theorem hf_X1_enterRoom {ad : List Nat} {h : hp} (L : Lay TLx ad h) {N : Nat} {a0 : Nat} {x1 : Int32}  {δ : dp} : hs (D_X1_enterRoom N h.1 a0 x1 δ) (fun r => HG true true ad δ r) := by
  unfold D_X1_enterRoom
  refine hs_bdv (fun δ_1 e1 => ?_)
  have u1 : HG true true ad δ δ_1 := HG.I HG_r e1 (by decide) (by decide)
  refine hs_bdv (fun δ_3 e2 => ?_)
  have u2 : HG true true ad δ δ_3 := HG.I u1 e2 (by decide) (by decide)
  refine hs_bdv (fun δ_5 e3 => ?_)
  have u3 : HG true true ad δ δ_5 := HG.I u2 e3 (by decide) (by decide)
  refine hs_bdv (fun δ_7 e4 => ?_)
  have u4 : HG true true ad δ δ_7 := HG.I u3 e4 (by decide) (by decide)
  exact hs_some u4
theorem hj_X1_firstFrom_52 {ad : List Nat} {h : hp} (L : Lay TLx ad h) {N : Nat} {a0 : Nat} {x3 : Int32} {kt10 : Int32 → Int32 → Int32 → dp → Option (Int32 × dp)} {x1v : Int32} {x2v : Int32} {x4v : Int32} (h_kt10 : ∀ (y0 : Int32) (y1 : Int32) (y2 : Int32) (δ1 : dp), hs (kt10 y0 y1 y2 δ1) (fun r => HG true true ad δ1 r.2)) {δ : dp} : hs (J_X1_firstFrom_52 N h.1 a0 x3 kt10 x1v x2v x4v δ) (fun r => HG true true ad δ r.2) := by
  unfold J_X1_firstFrom_52
  exact h_kt10 x1v x2v x4v δ
theorem hl_X1_firstFrom_10 {ad : List Nat} {h : hp} (L : Lay TLx ad h) {N : Nat} {a0 : Nat} {x3 : Int32}  : ∀ (n : Nat) (x1v : Int32) (x2v : Int32) (x4v : Int32) (δ : dp), hs (L_X1_firstFrom_10 N h.1 a0 x3 n x1v x2v x4v δ) (fun r => HG true true ad δ r.2) := by
  intro n
  induction n with
  | zero => intro x1v x2v x4v δ; unfold L_X1_firstFrom_10; exact hs_none
  | succ n ih =>
    intro x1v x2v x4v δ
    unfold L_X1_firstFrom_10
    refine hs_ite (fun _ => ?_) (fun _ => ?_)
    · skip
      exact hs_some HG_r
    · skip
      refine hs_biv (fun x_4 _ => ?_)
      refine hs_ob (fun b_6 hb_6 => ?_)
      refine hs_gd (fun gz1 => ?_)
      refine hs_ite (fun _ => ?_) (fun _ => ?_)
      · skip
        exact hj_X1_firstFrom_52 L ih
      · skip
        refine hs_biv (fun x_9 _ => ?_)
        exact hj_X1_firstFrom_52 L ih
theorem hf_X1_firstFrom {ad : List Nat} {h : hp} (L : Lay TLx ad h) {N : Nat} {a0 : Nat} {x1 : Int32} {x2 : Int32} {x3 : Int32}  {δ : dp} : hs (D_X1_firstFrom N h.1 a0 x1 x2 x3 δ) (fun r => HG true true ad δ r.2) := by
  unfold D_X1_firstFrom
  refine hs_biv (fun x_1 _ => ?_)
  exact hl_X1_firstFrom_10 L N x1 x2 x_1 δ
theorem hj_X1_findRoom_69 {ad : List Nat} {h : hp} (L : Lay TLx ad h) {N : Nat} {a0 : Nat} {x1 : Int32} {xs0 : Int32}  {δ : dp} : hs (J_X1_findRoom_69 N h.1 a0 x1 xs0 δ) (fun r => HG true true ad δ r.2) := by
  unfold J_X1_findRoom_69
  refine hs_gp (fun gk1 => ?_)
  exact hs_some HG_r
theorem hf_X1_findRoom {ad : List Nat} {h : hp} (L : Lay TLx ad h) {N : Nat} {a0 : Nat} {x1 : Int32}  {δ : dp} : hs (D_X1_findRoom N h.1 a0 x1 δ) (fun r => HG true true ad δ r.2) := by
  unfold D_X1_findRoom
  refine hs_biv (fun x_1 _ => ?_)
  refine hs_bind (hf_X1_firstFrom L) (fun r_3 u1' => ?_)
  have u1 : HG true true ad δ r_3.2 := u1'
  refine hs_bdv (fun δ_4 e2 => ?_)
  have u2 : HG true true ad δ δ_4 := HG.I u1 e2 (by decide) (by decide)
  refine hs_bind (hf_X1_firstFrom L) (fun r_6 u3' => ?_)
  have u3 : HG true true ad δ r_6.2 := u2.t (u3')
  refine hs_bdv (fun δ_7 e4 => ?_)
  have u4 : HG true true ad δ δ_7 := HG.I u3 e4 (by decide) (by decide)
  refine hs_ite (fun _ => ?_) (fun _ => ?_)
  · skip
    exact hs_mono (hj_X1_findRoom_69 L) (fun _ hr => u4.t (hr))
  · skip
    exact hs_mono (hj_X1_findRoom_69 L) (fun _ hr => u4.t (hr))
theorem hf_X1_valueAt {ad : List Nat} {h : hp} (L : Lay TLx ad h) {N : Nat} {a0 : Nat} {x1 : Int32}  {δ : dp} : hs (D_X1_valueAt N h.1 a0 x1 δ) (fun r => HG true true ad δ r.2) := by
  unfold D_X1_valueAt
  refine hs_ob (fun b_1 hb_1 => ?_)
  refine hs_gd (fun gz1 => ?_)
  exact hs_some HG_r
theorem hj_X1_goOnDown_33 {ad : List Nat} {h : hp} (L : Lay TLx ad h) {N : Nat} {a0 : Nat}  {δ : dp} : hs (J_X1_goOnDown_33 N h.1 a0 δ) (fun r => HG true true ad δ r.2) := by
  unfold J_X1_goOnDown_33
  refine hs_bdv (fun δ_2 e1 => ?_)
  have u1 : HG true true ad δ δ_2 := HG.I HG_r e1 (by decide) (by decide)
  exact hs_some u1
theorem hf_X1_enterList {ad : List Nat} {h : hp} (L : Lay TLx ad h) {N : Nat} {a0 : Nat} {x1 : Int32}  {δ : dp} : hs (D_X1_enterList N h.1 a0 x1 δ) (fun r => HG true true ad δ r) := by
  unfold D_X1_enterList
  refine hs_bdv (fun δ_1 e1 => ?_)
  have u1 : HG true true ad δ δ_1 := HG.I HG_r e1 (by decide) (by decide)
  refine hs_bdv (fun δ_3 e2 => ?_)
  have u2 : HG true true ad δ δ_3 := HG.I u1 e2 (by decide) (by decide)
  refine hs_bdv (fun δ_5 e3 => ?_)
  have u3 : HG true true ad δ δ_5 := HG.I u2 e3 (by decide) (by decide)
  refine hs_bdv (fun δ_7 e4 => ?_)
  have u4 : HG true true ad δ δ_7 := HG.I u3 e4 (by decide) (by decide)
  refine hs_bdv (fun δ_9 e5 => ?_)
  have u5 : HG true true ad δ δ_9 := HG.I u4 e5 (by decide) (by decide)
  exact hs_some u5
theorem hj_X1_goOnDown_108 {ad : List Nat} {h : hp} (L : Lay TLx ad h) {N : Nat} {a0 : Nat} {x1v : Int32}  {δ : dp} : hs (J_X1_goOnDown_108 N h.1 a0 x1v δ) (fun r => HG true true ad δ r.2) := by
  unfold J_X1_goOnDown_108
  refine hs_bind (hf_X1_enterList L) (fun r_10 u1' => ?_)
  have u1 : HG true true ad δ r_10 := u1'
  exact hs_some u1
theorem hj_X1_goOnDown_80 {ad : List Nat} {h : hp} (L : Lay TLx ad h) {N : Nat} {a0 : Nat} {x1v : Int32}  {δ : dp} : hs (J_X1_goOnDown_80 N h.1 a0 x1v δ) (fun r => HG true true ad δ r.2) := by
  unfold J_X1_goOnDown_80
  refine hs_bind (hf_X1_valueAt L) (fun r_8 u1' => ?_)
  have u1 : HG true true ad δ r_8.2 := u1'
  refine hs_ite (fun _ => ?_) (fun _ => ?_)
  · skip
    exact hs_mono (hj_X1_goOnDown_108 L) (fun _ hr => u1.t (hr))
  · skip
    refine hs_biv (fun x_11 _ => ?_)
    exact hs_mono (hj_X1_goOnDown_108 L) (fun _ hr => u1.t (hr))
theorem hf_X1_goOnDown {ad : List Nat} {h : hp} (L : Lay TLx ad h) {N : Nat} {a0 : Nat}  {δ : dp} : hs (D_X1_goOnDown N h.1 a0 δ) (fun r => HG true true ad δ r.2) := by
  unfold D_X1_goOnDown
  refine hs_ite (fun _ => ?_) (fun _ => ?_)
  · skip
    exact hj_X1_goOnDown_33 L
  · skip
    refine hs_ite (fun _ => ?_) (fun _ => ?_)
    · skip
      exact hj_X1_goOnDown_33 L
    · skip
      refine hs_ite (fun _ => ?_) (fun _ => ?_)
      · skip
        refine hs_bind (hf_X1_findRoom L) (fun r_6 u1' => ?_)
        have u1 : HG true true ad δ r_6.2 := u1'
        refine hs_ite (fun _ => ?_) (fun _ => ?_)
        · skip
          exact hs_mono (hj_X1_goOnDown_80 L) (fun _ hr => u1.t (hr))
        · skip
          refine hs_bind (hf_X1_valueAt L) (fun r_13 u2' => ?_)
          have u2 : HG true true ad δ r_13.2 := u1.t (u2')
          refine hs_ite (fun _ => ?_) (fun _ => ?_)
          · skip
            exact hs_mono (hj_X1_goOnDown_80 L) (fun _ hr => u2.t (hr))
          · skip
            refine hs_bind (hf_X1_enterRoom L) (fun r_15 u3' => ?_)
            have u3 : HG true true ad δ r_15 := u2.t (u3')
            exact hs_some u3
      · skip
        exact hj_X1_goOnDown_33 L
theorem hj_X1_goOnDropping_65 {ad : List Nat} {h : hp} (L : Lay TLx ad h) {N : Nat} {a0 : Nat}  {δ : dp} : hs (J_X1_goOnDropping_65 N h.1 a0 δ) (fun r => HG true true ad δ r.2) := by
  unfold J_X1_goOnDropping_65
  refine hs_bdv (fun δ_3 e1 => ?_)
  have u1 : HG true true ad δ δ_3 := HG.I HG_r e1 (by decide) (by decide)
  exact hs_some u1
theorem hj_X1_goOnDropping_172 {ad : List Nat} {h : hp} (L : Lay TLx ad h) {N : Nat} {a0 : Nat} {x2v : Int32} {x3v : Int32}  {δ : dp} : hs (J_X1_goOnDropping_172 N h.1 a0 x2v x3v δ) (fun r => HG true true ad δ r.2) := by
  unfold J_X1_goOnDropping_172
  refine hs_bind (hf_X1_enterRoom L) (fun r_15 u1' => ?_)
  have u1 : HG true true ad δ r_15 := u1'
  exact hs_some u1
theorem hj_X1_goOnDropping_121 {ad : List Nat} {h : hp} (L : Lay TLx ad h) {N : Nat} {a0 : Nat} {xs0 : Int32} {x2v : Int32}  {δ : dp} : hs (J_X1_goOnDropping_121 N h.1 a0 xs0 x2v δ) (fun r => HG true true ad δ r.2) := by
  unfold J_X1_goOnDropping_121
  refine hs_bind (hf_X1_findRoom L) (fun r_11 u1' => ?_)
  have u1 : HG true true ad δ r_11.2 := u1'
  refine hs_ite (fun _ => ?_) (fun _ => ?_)
  · skip
    refine hs_bdv (fun δ_19 e2 => ?_)
    have u2 : HG true true ad δ δ_19 := HG.I u1 e2 (by decide) (by decide)
    exact hs_some u2
  · skip
    refine hs_bind (hf_X1_valueAt L) (fun r_13 u3' => ?_)
    have u3 : HG true true ad δ r_13.2 := u1.t (u3')
    refine hs_ite (fun _ => ?_) (fun _ => ?_)
    · skip
      refine hs_bind (hf_X1_valueAt L) (fun r_16 u4' => ?_)
      have u4 : HG true true ad δ r_16.2 := u3.t (u4')
      refine hs_ite (fun _ => ?_) (fun _ => ?_)
      · skip
        refine hs_bind (hf_X1_enterList L) (fun r_18 u5' => ?_)
        have u5 : HG true true ad δ r_18 := u4.t (u5')
        exact hs_some u5
      · skip
        exact hs_mono (hj_X1_goOnDropping_172 L) (fun _ hr => u4.t (hr))
    · skip
      exact hs_mono (hj_X1_goOnDropping_172 L) (fun _ hr => u3.t (hr))
theorem hj_X1_goOnDropping_118 {ad : List Nat} {h : hp} (L : Lay TLx ad h) {N : Nat} {a0 : Nat} {xs0 : Int32} {as1 : Nat} {x2v : Int32}  {δ : dp} : hs (J_X1_goOnDropping_118 N h.1 a0 xs0 as1 x2v δ) (fun r => HG true true ad δ r.2) := by
  unfold J_X1_goOnDropping_118
  refine hs_bind (hf_X1_valueAt L) (fun r_10 u1' => ?_)
  have u1 : HG true true ad δ r_10.2 := u1'
  exact hs_mono (hj_X1_goOnDropping_121 L) (fun _ hr => u1.t (hr))
theorem hj_X1_goOnDropping_81 {ad : List Nat} {h : hp} (L : Lay TLx ad h) {N : Nat} {a0 : Nat} {xs0 : Int32} {x1v : Int32}  {δ : dp} : hs (J_X1_goOnDropping_81 N h.1 a0 xs0 x1v δ) (fun r => HG true true ad δ r.2) := by
  unfold J_X1_goOnDropping_81
  refine hs_ite (fun _ => ?_) (fun _ => ?_)
  · skip
    exact hj_X1_goOnDropping_121 L
  · skip
    refine hs_ite (fun _ => ?_) (fun _ => ?_)
    · skip
      exact hj_X1_goOnDropping_118 L
    · skip
      exact hj_X1_goOnDropping_118 L
theorem hj_X1_goOnDropping_72 {ad : List Nat} {h : hp} (L : Lay TLx ad h) {N : Nat} {a0 : Nat} {x1v : Int32}  {δ : dp} : hs (J_X1_goOnDropping_72 N h.1 a0 x1v δ) (fun r => HG true true ad δ r.2) := by
  unfold J_X1_goOnDropping_72
  refine hs_ite (fun _ => ?_) (fun _ => ?_)
  · skip
    exact hj_X1_goOnDropping_81 L
  · skip
    exact hj_X1_goOnDropping_81 L
theorem hj_X1_goOnDropping_27 {ad : List Nat} {h : hp} (L : Lay TLx ad h) {N : Nat} {a0 : Nat} {xs0 : Int32}  {δ : dp} : hs (J_X1_goOnDropping_27 N h.1 a0 xs0 δ) (fun r => HG true true ad δ r.2) := by
  unfold J_X1_goOnDropping_27
  refine hs_ite (fun _ => ?_) (fun _ => ?_)
  · skip
    exact hj_X1_goOnDropping_65 L
  · skip
    refine hs_ite (fun _ => ?_) (fun _ => ?_)
    · skip
      exact hj_X1_goOnDropping_65 L
    · skip
      refine hs_ite (fun _ => ?_) (fun _ => ?_)
      · skip
        exact hj_X1_goOnDropping_72 L
      · skip
        refine hs_ite (fun _ => ?_) (fun _ => ?_)
        · skip
          exact hj_X1_goOnDropping_72 L
        · skip
          exact hj_X1_goOnDropping_65 L
theorem hj_X1_goOnDropping_22 {ad : List Nat} {h : hp} (L : Lay TLx ad h) {N : Nat} {a0 : Nat}  {δ : dp} : hs (J_X1_goOnDropping_22 N h.1 a0 δ) (fun r => HG true true ad δ r.2) := by
  unfold J_X1_goOnDropping_22
  exact hj_X1_goOnDropping_27 L
theorem hf_X1_goOnDropping {ad : List Nat} {h : hp} (L : Lay TLx ad h) {N : Nat} {a0 : Nat}  {δ : dp} : hs (D_X1_goOnDropping N h.1 a0 δ) (fun r => HG true true ad δ r.2) := by
  unfold D_X1_goOnDropping
  refine hs_ite (fun _ => ?_) (fun _ => ?_)
  · skip
    exact hj_X1_goOnDropping_22 L
  · skip
    refine hs_ite (fun _ => ?_) (fun _ => ?_)
    · skip
      exact hj_X1_goOnDropping_22 L
    · skip
      exact hj_X1_goOnDropping_27 L
theorem hj_J9_max_7cf53_10 {ad : List Nat} {h : hp} (L : Lay TLx ad h) {N : Nat} {x0 : Int32} {x1 : Int32} {xs0 : Int32}  {δ : dp} : hs (J_J9_max_7cf53_10 N h.1 x0 x1 xs0 δ) (fun r => HG true true ad δ r.2) := by
  unfold J_J9_max_7cf53_10
  exact hs_some HG_r
theorem hf_J9_max_7cf53 {ad : List Nat} {h : hp} (L : Lay TLx ad h) {N : Nat} {x0 : Int32} {x1 : Int32}  {δ : dp} : hs (D_J9_max_7cf53 N h.1 x0 x1 δ) (fun r => HG true true ad δ r.2) := by
  unfold D_J9_max_7cf53
  refine hs_ite (fun _ => ?_) (fun _ => ?_)
  · skip
    exact hj_J9_max_7cf53_10 L
  · skip
    exact hj_J9_max_7cf53_10 L
theorem hj_J9_min_7cf53_10 {ad : List Nat} {h : hp} (L : Lay TLx ad h) {N : Nat} {x0 : Int32} {x1 : Int32} {xs0 : Int32}  {δ : dp} : hs (J_J9_min_7cf53_10 N h.1 x0 x1 xs0 δ) (fun r => HG true true ad δ r.2) := by
  unfold J_J9_min_7cf53_10
  exact hs_some HG_r
theorem hf_J9_min_7cf53 {ad : List Nat} {h : hp} (L : Lay TLx ad h) {N : Nat} {x0 : Int32} {x1 : Int32}  {δ : dp} : hs (D_J9_min_7cf53 N h.1 x0 x1 δ) (fun r => HG true true ad δ r.2) := by
  unfold D_J9_min_7cf53
  refine hs_ite (fun _ => ?_) (fun _ => ?_)
  · skip
    exact hj_J9_min_7cf53_10 L
  · skip
    exact hj_J9_min_7cf53_10 L
theorem hj_X1_goOnPutting_22 {ad : List Nat} {h : hp} (L : Lay TLx ad h) {N : Nat} {a0 : Nat}  {δ : dp} : hs (J_X1_goOnPutting_22 N h.1 a0 δ) (fun r => HG true true ad δ r.2) := by
  unfold J_X1_goOnPutting_22
  refine hs_bdv (fun δ_2 e1 => ?_)
  have u1 : HG true true ad δ δ_2 := HG.I HG_r e1 (by decide) (by decide)
  exact hs_some u1
theorem hf_X1_goOnPutting {ad : List Nat} {h : hp} (L : Lay TLx ad h) {N : Nat} {a0 : Nat}  {δ : dp} : hs (D_X1_goOnPutting N h.1 a0 δ) (fun r => HG true true ad δ r.2) := by
  unfold D_X1_goOnPutting
  refine hs_ite (fun _ => ?_) (fun _ => ?_)
  · skip
    exact hj_X1_goOnPutting_22 L
  · skip
    refine hs_ite (fun _ => ?_) (fun _ => ?_)
    · skip
      exact hj_X1_goOnPutting_22 L
    · skip
      refine hs_bind (hf_J9_max_7cf53 L) (fun r_5 u1' => ?_)
      have u1 : HG true true ad δ r_5.2 := u1'
      refine hs_bind (hf_J9_min_7cf53 L) (fun r_6 u2' => ?_)
      have u2 : HG true true ad δ r_6.2 := u1.t (u2')
      refine hs_bind (hf_X1_findRoom L) (fun r_7 u3' => ?_)
      have u3 : HG true true ad δ r_7.2 := u2.t (u3')
      refine hs_ite (fun _ => ?_) (fun _ => ?_)
      · skip
        refine hs_bind (hf_X1_enterList L) (fun r_9 u4' => ?_)
        have u4 : HG true true ad δ r_9 := u3.t (u4')
        exact hs_some u4
      · skip
        refine hs_bind (hf_X1_enterRoom L) (fun r_10 u5' => ?_)
        have u5 : HG true true ad δ r_10 := u3.t (u5')
        exact hs_some u5
theorem hj_X1_goOnUp_33 {ad : List Nat} {h : hp} (L : Lay TLx ad h) {N : Nat} {a0 : Nat}  {δ : dp} : hs (J_X1_goOnUp_33 N h.1 a0 δ) (fun r => HG true true ad δ r.2) := by
  unfold J_X1_goOnUp_33
  refine hs_bdv (fun δ_2 e1 => ?_)
  have u1 : HG true true ad δ δ_2 := HG.I HG_r e1 (by decide) (by decide)
  exact hs_some u1
theorem hj_X1_goOnUp_112 {ad : List Nat} {h : hp} (L : Lay TLx ad h) {N : Nat} {a0 : Nat} {x1v : Int32}  {δ : dp} : hs (J_X1_goOnUp_112 N h.1 a0 x1v δ) (fun r => HG true true ad δ r.2) := by
  unfold J_X1_goOnUp_112
  refine hs_bind (hf_X1_enterList L) (fun r_10 u1' => ?_)
  have u1 : HG true true ad δ r_10 := u1'
  exact hs_some u1
theorem hj_X1_goOnUp_82 {ad : List Nat} {h : hp} (L : Lay TLx ad h) {N : Nat} {a0 : Nat} {x1v : Int32}  {δ : dp} : hs (J_X1_goOnUp_82 N h.1 a0 x1v δ) (fun r => HG true true ad δ r.2) := by
  unfold J_X1_goOnUp_82
  refine hs_bind (hf_X1_valueAt L) (fun r_8 u1' => ?_)
  have u1 : HG true true ad δ r_8.2 := u1'
  refine hs_ite (fun _ => ?_) (fun _ => ?_)
  · skip
    exact hs_mono (hj_X1_goOnUp_112 L) (fun _ hr => u1.t (hr))
  · skip
    refine hs_biv (fun x_11 _ => ?_)
    exact hs_mono (hj_X1_goOnUp_112 L) (fun _ hr => u1.t (hr))
theorem hf_X1_goOnUp {ad : List Nat} {h : hp} (L : Lay TLx ad h) {N : Nat} {a0 : Nat}  {δ : dp} : hs (D_X1_goOnUp N h.1 a0 δ) (fun r => HG true true ad δ r.2) := by
  unfold D_X1_goOnUp
  refine hs_ite (fun _ => ?_) (fun _ => ?_)
  · skip
    exact hj_X1_goOnUp_33 L
  · skip
    refine hs_ite (fun _ => ?_) (fun _ => ?_)
    · skip
      exact hj_X1_goOnUp_33 L
    · skip
      refine hs_ite (fun _ => ?_) (fun _ => ?_)
      · skip
        refine hs_bind (hf_X1_findRoom L) (fun r_6 u1' => ?_)
        have u1 : HG true true ad δ r_6.2 := u1'
        refine hs_ite (fun _ => ?_) (fun _ => ?_)
        · skip
          exact hs_mono (hj_X1_goOnUp_82 L) (fun _ hr => u1.t (hr))
        · skip
          refine hs_bind (hf_X1_valueAt L) (fun r_13 u2' => ?_)
          have u2 : HG true true ad δ r_13.2 := u1.t (u2')
          refine hs_ite (fun _ => ?_) (fun _ => ?_)
          · skip
            exact hs_mono (hj_X1_goOnUp_82 L) (fun _ hr => u2.t (hr))
          · skip
            refine hs_bind (hf_X1_enterRoom L) (fun r_15 u3' => ?_)
            have u3 : HG true true ad δ r_15 := u2.t (u3')
            exact hs_some u3
      · skip
        exact hj_X1_goOnUp_33 L
theorem hj_X5_lowerBits_18 {ad : List Nat} {h : hp} (L : Lay TLx ad h) {N : Nat} {a0 : Nat} {x1 : Int32} {xs0 : Int32}  {δ : dp} : hs (J_X5_lowerBits_18 N h.1 a0 x1 xs0 δ) (fun r => HG true true ad δ r.2) := by
  unfold J_X5_lowerBits_18
  exact hs_some HG_r
theorem hf_X5_lowerBits {ad : List Nat} {h : hp} (L : Lay TLx ad h) {N : Nat} {a0 : Nat} {x1 : Int32}  {δ : dp} : hs (D_X5_lowerBits N h.1 a0 x1 δ) (fun r => HG true true ad δ r.2) := by
  unfold D_X5_lowerBits
  refine hs_ite (fun _ => ?_) (fun _ => ?_)
  · skip
    exact hj_X5_lowerBits_18 L
  · skip
    exact hj_X5_lowerBits_18 L
theorem hj_X1_look_154 {ad : List Nat} {h : hp} (L : Lay TLx ad h) {N : Nat} {a0 : Nat}  {δ : dp} : hs (J_X1_look_154 N h.1 a0 δ) (fun r => HG true true ad δ r) := by
  unfold J_X1_look_154
  exact hs_some HG_r
theorem hj_X1_look_85 {ad : List Nat} {h : hp} (L : Lay TLx ad h) {N : Nat} {a0 : Nat} {xs0 : Int32} {as1 : Nat}  {δ : dp} : hs (J_X1_look_85 N h.1 a0 xs0 as1 δ) (fun r => HG true true ad δ r) := by
  unfold J_X1_look_85
  refine hs_gp (fun gk1 => ?_)
  refine hs_bdv (fun δ_14 e2 => ?_)
  have u2 : HG true true ad δ δ_14 := HG.I HG_r e2 (by decide) (by decide)
  refine hs_ite (fun _ => ?_) (fun _ => ?_)
  · skip
    refine hs_ob (fun b_17 hb_17 => ?_)
    refine hs_bind (hf_X5_lowerBits L) (fun r_19 u3' => ?_)
    have u3 : HG true true ad δ r_19.2 := u2.t (u3')
    refine hs_bdv (fun δ_20 e4 => ?_)
    have u4 : HG true true ad δ δ_20 := HG.I u3 e4 (by decide) (by decide)
    refine hs_bind (hf_X1_firstFrom L) (fun r_22 u5' => ?_)
    have u5 : HG true true ad δ r_22.2 := u4.t (u5')
    refine hs_bdv (fun δ_23 e6 => ?_)
    have u6 : HG true true ad δ δ_23 := HG.I u5 e6 (by decide) (by decide)
    refine hs_bind (hf_X1_firstFrom L) (fun r_25 u7' => ?_)
    have u7 : HG true true ad δ r_25.2 := u6.t (u7')
    refine hs_bdv (fun δ_26 e8 => ?_)
    have u8 : HG true true ad δ δ_26 := HG.I u7 e8 (by decide) (by decide)
    exact hs_mono (hj_X1_look_154 L) (fun _ hr => u8.t (hr))
  · skip
    exact hs_mono (hj_X1_look_154 L) (fun _ hr => u2.t (hr))
theorem hj_X1_look_31 {ad : List Nat} {h : hp} (L : Lay TLx ad h) {N : Nat} {a0 : Nat} {xs0 : Int32} {as1 : Nat}  {δ : dp} : hs (J_X1_look_31 N h.1 a0 xs0 as1 δ) (fun r => HG true true ad δ r) := by
  unfold J_X1_look_31
  refine hs_gp (fun gk1 => ?_)
  refine hs_bdv (fun δ_4 e2 => ?_)
  have u2 : HG true true ad δ δ_4 := HG.I HG_r e2 (by decide) (by decide)
  refine hs_ite (fun _ => ?_) (fun _ => ?_)
  · skip
    refine hs_bind (hf_X1_valueAt L) (fun r_7 u3' => ?_)
    have u3 : HG true true ad δ r_7.2 := u2.t (u3')
    refine hs_bdv (fun δ_8 e4 => ?_)
    have u4 : HG true true ad δ δ_8 := HG.I u3 e4 (by decide) (by decide)
    refine hs_bind (hf_X1_valueAt L) (fun r_10 u5' => ?_)
    have u5 : HG true true ad δ r_10.2 := u4.t (u5')
    refine hs_bdv (fun δ_11 e6 => ?_)
    have u6 : HG true true ad δ δ_11 := HG.I u5 e6 (by decide) (by decide)
    refine hs_ite (fun _ => ?_) (fun _ => ?_)
    · skip
      exact hs_mono (hj_X1_look_85 L) (fun _ hr => u6.t (hr))
    · skip
      exact hs_mono (hj_X1_look_85 L) (fun _ hr => u6.t (hr))
  · skip
    exact hs_some u2
theorem hj_X1_look_26 {ad : List Nat} {h : hp} (L : Lay TLx ad h) {N : Nat} {a0 : Nat} {as0 : Nat}  {δ : dp} : hs (J_X1_look_26 N h.1 a0 as0 δ) (fun r => HG true true ad δ r) := by
  unfold J_X1_look_26
  exact hj_X1_look_31 L
theorem hf_X1_look {ad : List Nat} {h : hp} (L : Lay TLx ad h) {N : Nat} {a0 : Nat}  {δ : dp} : hs (D_X1_look N h.1 a0 δ) (fun r => HG true true ad δ r) := by
  unfold D_X1_look
  refine hs_ob (fun b_1 hb_1 => ?_)
  refine hs_ite (fun _ => ?_) (fun _ => ?_)
  · skip
    exact hj_X1_look_26 L
  · skip
    refine hs_ite (fun _ => ?_) (fun _ => ?_)
    · skip
      exact hj_X1_look_31 L
    · skip
      exact hj_X1_look_26 L
theorem hj_X1_goOnAsking_49 {ad : List Nat} {h : hp} (L : Lay TLx ad h) {N : Nat} {a0 : Nat}  {δ : dp} : hs (J_X1_goOnAsking_49 N h.1 a0 δ) (fun r => HG true true ad δ r) := by
  unfold J_X1_goOnAsking_49
  exact hs_some HG_r
theorem hj_X1_goOnAsking_33 {ad : List Nat} {h : hp} (L : Lay TLx ad h) {N : Nat} {a0 : Nat}  {δ : dp} : hs (J_X1_goOnAsking_33 N h.1 a0 δ) (fun r => HG true true ad δ r) := by
  unfold J_X1_goOnAsking_33
  refine hs_bdv (fun δ_2 e1 => ?_)
  have u1 : HG true true ad δ δ_2 := HG.I HG_r e1 (by decide) (by decide)
  exact hs_mono (hj_X1_goOnAsking_49 L) (fun _ hr => u1.t (hr))
theorem hf_X1_goOnAsking {ad : List Nat} {h : hp} (L : Lay TLx ad h) {N : Nat} {a0 : Nat}  {δ : dp} : hs (D_X1_goOnAsking N h.1 a0 δ) (fun r => HG true true ad δ r) := by
  unfold D_X1_goOnAsking
  refine hs_ite (fun _ => ?_) (fun _ => ?_)
  · skip
    exact hj_X1_goOnAsking_33 L
  · skip
    refine hs_ite (fun _ => ?_) (fun _ => ?_)
    · skip
      exact hj_X1_goOnAsking_33 L
    · skip
      refine hs_bind (hf_X1_findRoom L) (fun r_5 u1' => ?_)
      have u1 : HG true true ad δ r_5.2 := u1'
      refine hs_ite (fun _ => ?_) (fun _ => ?_)
      · skip
        exact hs_mono (hj_X1_goOnAsking_33 L) (fun _ hr => u1.t (hr))
      · skip
        refine hs_bind (hf_X1_enterRoom L) (fun r_7 u2' => ?_)
        have u2 : HG true true ad δ r_7 := u1.t (u2')
        exact hs_mono (hj_X1_goOnAsking_49 L) (fun _ hr => u2.t (hr))
theorem hj_X1_touchesOf_156 {ad : List Nat} {h : hp} (L : Lay TLx ad h) {N : Nat} {a0 : Nat} {x1 : Int32} {x2 : Int32} {kt47 : Int32 → Int32 → dp → Option (Int32 × dp)} {x3v : Int32} {x4v : Int32} (h_kt47 : ∀ (y0 : Int32) (y1 : Int32) (δ1 : dp), hs (kt47 y0 y1 δ1) (fun r => HG true true ad δ1 r.2)) {δ : dp} : hs (J_X1_touchesOf_156 N h.1 a0 x1 x2 kt47 x3v x4v δ) (fun r => HG true true ad δ r.2) := by
  unfold J_X1_touchesOf_156
  refine hs_biv (fun x_27 _ => ?_)
  exact h_kt47 x3v x_27 δ
theorem hj_X1_touchesOf_152 {ad : List Nat} {h : hp} (L : Lay TLx ad h) {N : Nat} {a0 : Nat} {x1 : Int32} {x2 : Int32} {kt47 : Int32 → Int32 → dp → Option (Int32 × dp)} {x3v : Int32} {x4v : Int32} (h_kt47 : ∀ (y0 : Int32) (y1 : Int32) (δ1 : dp), hs (kt47 y0 y1 δ1) (fun r => HG true true ad δ1 r.2)) {δ : dp} : hs (J_X1_touchesOf_152 N h.1 a0 x1 x2 kt47 x3v x4v δ) (fun r => HG true true ad δ r.2) := by
  unfold J_X1_touchesOf_152
  refine hs_bind (hf_X1_goOnAsking L) (fun r_34 u1' => ?_)
  have u1 : HG true true ad δ r_34 := u1'
  exact hs_mono (hj_X1_touchesOf_156 L h_kt47) (fun _ hr => u1.t (hr))
theorem hj_X1_touchesOf_162 {ad : List Nat} {h : hp} (L : Lay TLx ad h) {N : Nat} {a0 : Nat} {x1 : Int32} {x2 : Int32} {x3v : Int32}  {δ : dp} : hs (J_X1_touchesOf_162 N h.1 a0 x1 x2 x3v δ) (fun r => HG true true ad δ r.2) := by
  unfold J_X1_touchesOf_162
  exact hs_some HG_r
theorem hl_X1_touchesOf_47 {ad : List Nat} {h : hp} (L : Lay TLx ad h) {N : Nat} {a0 : Nat} {x1 : Int32} {x2 : Int32}  : ∀ (n : Nat) (x3v : Int32) (x4v : Int32) (δ : dp), hs (L_X1_touchesOf_47 N h.1 a0 x1 x2 n x3v x4v δ) (fun r => HG true true ad δ r.2) := by
  intro n
  induction n with
  | zero => intro x3v x4v δ; unfold L_X1_touchesOf_47; exact hs_none
  | succ n ih =>
    intro x3v x4v δ
    unfold L_X1_touchesOf_47
    refine hs_ite (fun _ => ?_) (fun _ => ?_)
    · skip
      exact hj_X1_touchesOf_162 L
    · skip
      refine hs_ite (fun _ => ?_) (fun _ => ?_)
      · skip
        refine hs_biv (fun x_19 _ => ?_)
        refine hs_bind (hf_X1_look L) (fun r_21 u1' => ?_)
        have u1 : HG true true ad δ r_21 := u1'
        refine hs_ite (fun _ => ?_) (fun _ => ?_)
        · skip
          refine hs_ite (fun _ => ?_) (fun _ => ?_)
          · skip
            refine hs_bind (hf_X1_goOnPutting L) (fun r_24 u2' => ?_)
            have u2 : HG true true ad δ r_24.2 := u1.t (u2')
            refine hs_biv (fun x_25 _ => ?_)
            exact hs_mono (hj_X1_touchesOf_156 L ih) (fun _ hr => u2.t (hr))
          · skip
            refine hs_ite (fun _ => ?_) (fun _ => ?_)
            · skip
              refine hs_bind (hf_X1_goOnDropping L) (fun r_30 u3' => ?_)
              have u3 : HG true true ad δ r_30.2 := u1.t (u3')
              refine hs_biv (fun x_31 _ => ?_)
              exact hs_mono (hj_X1_touchesOf_156 L ih) (fun _ hr => u3.t (hr))
            · skip
              refine hs_ite (fun _ => ?_) (fun _ => ?_)
              · skip
                exact hs_mono (hj_X1_touchesOf_152 L ih) (fun _ hr => u1.t (hr))
              · skip
                refine hs_ite (fun _ => ?_) (fun _ => ?_)
                · skip
                  refine hs_bind (hf_X1_goOnUp L) (fun r_36 u4' => ?_)
                  have u4 : HG true true ad δ r_36.2 := u1.t (u4')
                  refine hs_biv (fun x_37 _ => ?_)
                  exact hs_mono (hj_X1_touchesOf_156 L ih) (fun _ hr => u4.t (hr))
                · skip
                  refine hs_ite (fun _ => ?_) (fun _ => ?_)
                  · skip
                    refine hs_bind (hf_X1_goOnDown L) (fun r_40 u5' => ?_)
                    have u5 : HG true true ad δ r_40.2 := u1.t (u5')
                    refine hs_biv (fun x_41 _ => ?_)
                    exact hs_mono (hj_X1_touchesOf_156 L ih) (fun _ hr => u5.t (hr))
                  · skip
                    exact hs_mono (hj_X1_touchesOf_152 L ih) (fun _ hr => u1.t (hr))
        · skip
          exact hs_some u1
      · skip
        exact hj_X1_touchesOf_162 L
theorem hf_X1_touchesOf {ad : List Nat} {h : hp} (L : Lay TLx ad h) {N : Nat} {a0 : Nat} {x1 : Int32} {x2 : Int32}  {δ : dp} : hs (D_X1_touchesOf N h.1 a0 x1 x2 δ) (fun r => HG true true ad δ r.2) := by
  unfold D_X1_touchesOf
  refine hs_bdv (fun δ_1 e1 => ?_)
  have u1 : HG true true ad δ δ_1 := HG.I HG_r e1 (by decide) (by decide)
  refine hs_ob (fun b_3 hb_3 => ?_)
  refine hs_bdv (fun δ_5 e2 => ?_)
  have u2 : HG true true ad δ δ_5 := HG.I u1 e2 (by decide) (by decide)
  refine hs_bdv (fun δ_7 e3 => ?_)
  have u3 : HG true true ad δ δ_7 := HG.I u2 e3 (by decide) (by decide)
  refine hs_ob (fun b_9 hb_9 => ?_)
  refine hs_bdv (fun δ_11 e4 => ?_)
  have u4 : HG true true ad δ δ_11 := HG.I u3 e4 (by decide) (by decide)
  refine hs_bdv (fun δ_13 e5 => ?_)
  have u5 : HG true true ad δ δ_13 := HG.I u4 e5 (by decide) (by decide)
  refine hs_bdv (fun δ_15 e6 => ?_)
  have u6 : HG true true ad δ δ_15 := HG.I u5 e6 (by decide) (by decide)
  exact hs_mono (hl_X1_touchesOf_47 L N 0 0 δ_15) (fun _ hr => u6.t (hr))
theorem hj_X3_touchesInRow_68 {ad : List Nat} {h : hp} (L : Lay TLx ad h) {N : Nat} {a0 : Nat} {x1 : Int32} {x2 : Int32} {kt25 : Int32 → Int32 → Int32 → Int32 → dp → Option (Int32 × dp)} {x3v : Int32} {x4v : Int32} {x5v : Int32} {x6v : Int32} (h_kt25 : ∀ (y0 : Int32) (y1 : Int32) (y2 : Int32) (y3 : Int32) (δ1 : dp), hs (kt25 y0 y1 y2 y3 δ1) (fun r => HG true true ad δ1 r.2)) {δ : dp} : hs (J_X3_touchesInRow_68 N h.1 a0 x1 x2 kt25 x3v x4v x5v x6v δ) (fun r => HG true true ad δ r.2) := by
  unfold J_X3_touchesInRow_68
  exact h_kt25 x3v x4v x5v x6v δ
theorem hj_X3_touchesInRow_170 {ad : List Nat} {h : hp} (L : Lay TLx ad h) {N : Nat} {a0 : Nat} {x1 : Int32} {x2 : Int32} {x4v : Int32}  {δ : dp} : hs (J_X3_touchesInRow_170 N h.1 a0 x1 x2 x4v δ) (fun r => HG true true ad δ r.2) := by
  unfold J_X3_touchesInRow_170
  exact hs_some HG_r
theorem hj_X3_touchesInRow_146 {ad : List Nat} {h : hp} (L : Lay TLx ad h) {N : Nat} {a0 : Nat} {x1 : Int32} {x2 : Int32} {x4v : Int32} {x5v : Int32} {x7v : Int32}  {δ : dp} : hs (J_X3_touchesInRow_146 N h.1 a0 x1 x2 x4v x5v x7v δ) (fun r => HG true true ad δ r.2) := by
  unfold J_X3_touchesInRow_146
  refine hs_ite (fun _ => ?_) (fun _ => ?_)
  · skip
    refine hs_ite (fun _ => ?_) (fun _ => ?_)
    · skip
      exact hj_X3_touchesInRow_170 L
    · skip
      refine hs_biv (fun x_11 _ => ?_)
      exact hj_X3_touchesInRow_170 L
  · skip
    exact hj_X3_touchesInRow_170 L
theorem hj_X3_touchesInRow_123 {ad : List Nat} {h : hp} (L : Lay TLx ad h) {N : Nat} {a0 : Nat} {x1 : Int32} {x2 : Int32} {x4v : Int32} {x5v : Int32} {x7v : Int32}  {δ : dp} : hs (J_X3_touchesInRow_123 N h.1 a0 x1 x2 x4v x5v x7v δ) (fun r => HG true true ad δ r.2) := by
  unfold J_X3_touchesInRow_123
  refine hs_ite (fun _ => ?_) (fun _ => ?_)
  · skip
    refine hs_ite (fun _ => ?_) (fun _ => ?_)
    · skip
      refine hs_biv (fun x_14 _ => ?_)
      exact hj_X3_touchesInRow_146 L
    · skip
      exact hj_X3_touchesInRow_146 L
  · skip
    exact hj_X3_touchesInRow_146 L
theorem hj_X3_touchesInRow_120 {ad : List Nat} {h : hp} (L : Lay TLx ad h) {N : Nat} {a0 : Nat} {x1 : Int32} {x2 : Int32} {x4v : Int32} {x5v : Int32} {x7v : Int32}  {δ : dp} : hs (J_X3_touchesInRow_120 N h.1 a0 x1 x2 x4v x5v x7v δ) (fun r => HG true true ad δ r.2) := by
  unfold J_X3_touchesInRow_120
  refine hs_biv (fun x_16 _ => ?_)
  exact hj_X3_touchesInRow_123 L
theorem hj_X3_touchesInRow_96 {ad : List Nat} {h : hp} (L : Lay TLx ad h) {N : Nat} {a0 : Nat} {x1 : Int32} {x2 : Int32} {xs0 : Int32} {x4v : Int32} {x5v : Int32}  {δ : dp} : hs (J_X3_touchesInRow_96 N h.1 a0 x1 x2 xs0 x4v x5v δ) (fun r => HG true true ad δ r.2) := by
  unfold J_X3_touchesInRow_96
  refine hs_ite (fun _ => ?_) (fun _ => ?_)
  · skip
    refine hs_ite (fun _ => ?_) (fun _ => ?_)
    · skip
      exact hj_X3_touchesInRow_123 L
    · skip
      exact hj_X3_touchesInRow_120 L
  · skip
    refine hs_ite (fun _ => ?_) (fun _ => ?_)
    · skip
      exact hj_X3_touchesInRow_123 L
    · skip
      exact hj_X3_touchesInRow_120 L
theorem hj_X3_touchesInRow_95 {ad : List Nat} {h : hp} (L : Lay TLx ad h) {N : Nat} {a0 : Nat} {x1 : Int32} {x2 : Int32} {x4v : Int32} {x5v : Int32}  {δ : dp} : hs (J_X3_touchesInRow_95 N h.1 a0 x1 x2 x4v x5v δ) (fun r => HG true true ad δ r.2) := by
  unfold J_X3_touchesInRow_95
  exact hj_X3_touchesInRow_96 L
theorem hl_X3_touchesInRow_25 {ad : List Nat} {h : hp} (L : Lay TLx ad h) {N : Nat} {a0 : Nat} {x1 : Int32} {x2 : Int32}  : ∀ (n : Nat) (x3v : Int32) (x4v : Int32) (x5v : Int32) (x6v : Int32) (δ : dp), hs (L_X3_touchesInRow_25 N h.1 a0 x1 x2 n x3v x4v x5v x6v δ) (fun r => HG true true ad δ r.2) := by
  intro n
  induction n with
  | zero => intro x3v x4v x5v x6v δ; unfold L_X3_touchesInRow_25; exact hs_none
  | succ n ih =>
    intro x3v x4v x5v x6v δ
    unfold L_X3_touchesInRow_25
    refine hs_ite (fun _ => ?_) (fun _ => ?_)
    · skip
      refine hs_ite (fun _ => ?_) (fun _ => ?_)
      · skip
        exact hj_X3_touchesInRow_95 L
      · skip
        refine hs_ob (fun b_19 hb_19 => ?_)
        refine hs_gd (fun gz1 => ?_)
        refine hs_ite (fun _ => ?_) (fun _ => ?_)
        · skip
          exact hj_X3_touchesInRow_96 L
        · skip
          exact hj_X3_touchesInRow_95 L
    · skip
      refine hs_biv (fun x_22 _ => ?_)
      refine hs_biv (fun x_24 _ => ?_)
      refine hs_ob (fun b_26 hb_26 => ?_)
      refine hs_gd (fun gz2 => ?_)
      refine hs_ite (fun _ => ?_) (fun _ => ?_)
      · skip
        exact hj_X3_touchesInRow_68 L ih
      · skip
        refine hs_biv (fun x_29 _ => ?_)
        exact hj_X3_touchesInRow_68 L ih
theorem hj_X3_touchesInRow_12 {ad : List Nat} {h : hp} (L : Lay TLx ad h) {N : Nat} {a0 : Nat} {x1 : Int32} {x2 : Int32} {xs0 : Int32}  {δ : dp} : hs (J_X3_touchesInRow_12 N h.1 a0 x1 x2 xs0 δ) (fun r => HG true true ad δ r.2) := by
  unfold J_X3_touchesInRow_12
  refine hs_biv (fun x_2 _ => ?_)
  exact hl_X3_touchesInRow_25 L N xs0 0 0 x_2 δ
theorem hf_X3_touchesInRow {ad : List Nat} {h : hp} (L : Lay TLx ad h) {N : Nat} {a0 : Nat} {x1 : Int32} {x2 : Int32}  {δ : dp} : hs (D_X3_touchesInRow N h.1 a0 x1 x2 δ) (fun r => HG true true ad δ r.2) := by
  unfold D_X3_touchesInRow
  refine hs_ite (fun _ => ?_) (fun _ => ?_)
  · skip
    exact hj_X3_touchesInRow_12 L
  · skip
    exact hj_X3_touchesInRow_12 L
theorem hf_X3_wordOf {ad : List Nat} {h : hp} (L : Lay TLx ad h) {N : Nat} {x0 : Int32}  {δ : dp} : hs (D_X3_wordOf N h.1 x0 δ) (fun r => HG true true ad δ r.2) := by
  unfold D_X3_wordOf
  exact hs_some HG_r
theorem hj_X3_touchesInWords_54 {ad : List Nat} {h : hp} (L : Lay TLx ad h) {N : Nat} {a0 : Nat} {x1 : Int32} {x2 : Int32} {x3 : Int32} {xs0 : Int32}  {δ : dp} : hs (J_X3_touchesInWords_54 N h.1 a0 x1 x2 x3 xs0 δ) (fun r => HG true true ad δ r.2) := by
  unfold J_X3_touchesInWords_54
  exact hs_some HG_r
theorem hj_X3_touchesInWords_42 {ad : List Nat} {h : hp} (L : Lay TLx ad h) {N : Nat} {a0 : Nat} {x1 : Int32} {x2 : Int32} {x3 : Int32} {xs0 : Int32}  {δ : dp} : hs (J_X3_touchesInWords_42 N h.1 a0 x1 x2 x3 xs0 δ) (fun r => HG true true ad δ r.2) := by
  unfold J_X3_touchesInWords_42
  refine hs_bind (hf_X3_wordOf L) (fun r_13 u1' => ?_)
  have u1 : HG true true ad δ r_13.2 := u1'
  refine hs_bind (hf_X3_wordOf L) (fun r_14 u2' => ?_)
  have u2 : HG true true ad δ r_14.2 := u1.t (u2')
  exact hs_mono (hj_X3_touchesInWords_54 L) (fun _ hr => u2.t (hr))
theorem hj_X3_touchesInWords_99 {ad : List Nat} {h : hp} (L : Lay TLx ad h) {N : Nat} {a0 : Nat} {x1 : Int32} {x2 : Int32} {x3 : Int32} {xs0 : Int32}  {δ : dp} : hs (J_X3_touchesInWords_99 N h.1 a0 x1 x2 x3 xs0 δ) (fun r => HG true true ad δ r.2) := by
  unfold J_X3_touchesInWords_99
  exact hs_some HG_r
theorem hj_X3_touchesInWords_93 {ad : List Nat} {h : hp} (L : Lay TLx ad h) {N : Nat} {a0 : Nat} {x1 : Int32} {x2 : Int32} {x3 : Int32} {xs0 : Int32} {xs1 : Int32}  {δ : dp} : hs (J_X3_touchesInWords_93 N h.1 a0 x1 x2 x3 xs0 xs1 δ) (fun r => HG true true ad δ r.2) := by
  unfold J_X3_touchesInWords_93
  refine hs_bind (hf_X3_wordOf L) (fun r_9 u1' => ?_)
  have u1 : HG true true ad δ r_9.2 := u1'
  exact hs_mono (hj_X3_touchesInWords_99 L) (fun _ hr => u1.t (hr))
theorem hf_X3_touchesInWords {ad : List Nat} {h : hp} (L : Lay TLx ad h) {N : Nat} {a0 : Nat} {x1 : Int32} {x2 : Int32} {x3 : Int32}  {δ : dp} : hs (D_X3_touchesInWords N h.1 a0 x1 x2 x3 δ) (fun r => HG true true ad δ r.2) := by
  unfold D_X3_touchesInWords
  refine hs_biv (fun x_1 _ => ?_)
  refine hs_ite (fun _ => ?_) (fun _ => ?_)
  · skip
    refine hs_bind (hf_X3_above L) (fun r_10 u1' => ?_)
    have u1 : HG true true ad δ r_10.2 := u1'
    refine hs_ite (fun _ => ?_) (fun _ => ?_)
    · skip
      refine hs_ite (fun _ => ?_) (fun _ => ?_)
      · skip
        exact hs_mono (hj_X3_touchesInWords_42 L) (fun _ hr => u1.t (hr))
      · skip
        exact hs_mono (hj_X3_touchesInWords_42 L) (fun _ hr => u1.t (hr))
    · skip
      exact hs_mono (hj_X3_touchesInWords_54 L) (fun _ hr => u1.t (hr))
  · skip
    refine hs_ite (fun _ => ?_) (fun _ => ?_)
    · skip
      refine hs_bind (hf_X3_below L) (fun r_5 u2' => ?_)
      have u2 : HG true true ad δ r_5.2 := u2'
      refine hs_ite (fun _ => ?_) (fun _ => ?_)
      · skip
        refine hs_bind (hf_X3_wordOf L) (fun r_7 u3' => ?_)
        have u3 : HG true true ad δ r_7.2 := u2.t (u3')
        refine hs_ite (fun _ => ?_) (fun _ => ?_)
        · skip
          exact hs_mono (hj_X3_touchesInWords_93 L) (fun _ hr => u3.t (hr))
        · skip
          exact hs_mono (hj_X3_touchesInWords_93 L) (fun _ hr => u3.t (hr))
      · skip
        exact hs_mono (hj_X3_touchesInWords_99 L) (fun _ hr => u2.t (hr))
    · skip
      exact hs_some HG_r
theorem hj_X11_touches_99 {ad : List Nat} {h : hp} (L : Lay TLx ad h) {N : Nat} {a0 : Nat} {x1 : Int32} {x2 : Int32} {x3 : Int32} {x4 : Int32} {xs0 : Int32}  {δ : dp} : hs (J_X11_touches_99 N h.1 a0 x1 x2 x3 x4 xs0 δ) (fun r => HG true true ad δ r.2) := by
  unfold J_X11_touches_99
  exact hs_some HG_r
theorem hj_X11_touches_35 {ad : List Nat} {h : hp} (L : Lay TLx ad h) {N : Nat} {a0 : Nat} {x1 : Int32} {x2 : Int32} {x3 : Int32} {x4 : Int32} {xs0 : Int32} {as1 : Nat} (k11_as1 : q_K h.1 as1 = 11) {δ : dp} : hs (J_X11_touches_35 N h.1 a0 x1 x2 x3 x4 xs0 as1 δ) (fun r => HG true false ad δ r.2) := by
  unfold J_X11_touches_35
  refine hs_bxv (hf_X11_need L k11_as1) (fun _ _ u1' => u1') (fun δ_8 u1' => ?_)
  have u1 : HG true false ad δ δ_8 := u1'
  refine hs_ite (fun _ => ?_) (fun _ => ?_)
  · skip
    refine hs_ob (fun b_21 hb_21 => ?_)
    refine hs_gd (fun gz2 => ?_)
    refine hs_ob (fun b_23 hb_23 => ?_)
    refine hs_ob (fun b_25 hb_25 => ?_)
    refine hs_bind (hf_X1_touchesOf L) (fun r_27 u3' => ?_)
    have u3 : HG true false ad δ r_27.2 := u1.t ((u3').w (by decide) (by decide))
    exact hs_some u3
  · skip
    refine hs_ob (fun b_10 hb_10 => ?_)
    refine hs_gd (fun gz4 => ?_)
    refine hs_ob (fun b_12 hb_12 => ?_)
    refine hs_ob (fun b_14 hb_14 => ?_)
    refine hs_ite (fun _ => ?_) (fun _ => ?_)
    · skip
      refine hs_ob (fun b_18 hb_18 => ?_)
      refine hs_bind (hf_X3_touchesInWords L) (fun r_20 u5' => ?_)
      have u5 : HG true false ad δ r_20.2 := u1.t ((u5').w (by decide) (by decide))
      exact hs_mono (hj_X11_touches_99 L) (fun _ hr => u5.t ((hr).w (by decide) (by decide)))
    · skip
      refine hs_bind (hf_X3_touchesInRow L) (fun r_17 u6' => ?_)
      have u6 : HG true false ad δ r_17.2 := u1.t ((u6').w (by decide) (by decide))
      exact hs_mono (hj_X11_touches_99 L) (fun _ hr => u6.t ((hr).w (by decide) (by decide)))
theorem hj_X11_touches_34 {ad : List Nat} {h : hp} (L : Lay TLx ad h) {N : Nat} {a0 : Nat} {x1 : Int32} {x2 : Int32} {x3 : Int32} {x4 : Int32} {as0 : Nat} (k11_as0 : q_K h.1 as0 = 11) {δ : dp} : hs (J_X11_touches_34 N h.1 a0 x1 x2 x3 x4 as0 δ) (fun r => HG true false ad δ r.2) := by
  unfold J_X11_touches_34
  exact hj_X11_touches_35 L k11_as0
theorem hf_X11_touches {ad : List Nat} {h : hp} (L : Lay TLx ad h) {N : Nat} {a0 : Nat} {x1 : Int32} {x2 : Int32} {x3 : Int32} {x4 : Int32} (k11_a0 : q_K h.1 a0 = 11) {δ : dp} : hs (D_X11_touches N h.1 a0 x1 x2 x3 x4 δ) (fun r => HG true false ad δ r.2) := by
  unfold D_X11_touches
  refine hs_bxv (hf_X11_needHouse L k11_a0) (fun _ _ u1' => u1') (fun δ_3 u1' => ?_)
  have u1 : HG true false ad δ δ_3 := u1'
  refine hs_bind (hf_X11_isCall L) (fun r_4 u2' => ?_)
  have u2 : HG true false ad δ r_4.2 := u1.t ((u2').w (by decide) (by decide))
  refine hs_ite (fun _ => ?_) (fun _ => ?_)
  · skip
    exact hs_mono (hj_X11_touches_34 L k11_a0) (fun _ hr => u2.t (hr))
  · skip
    refine hs_bind (hf_X11_mayAsk L) (fun r_28 u3' => ?_)
    have u3 : HG true false ad δ r_28.2 := u2.t ((u3').w (by decide) (by decide))
    refine hs_ite (fun _ => ?_) (fun _ => ?_)
    · skip
      exact hs_mono (hj_X11_touches_34 L k11_a0) (fun _ hr => u3.t (hr))
    · skip
      refine hs_bind (hf_X11_isKind L) (fun r_30 u4' => ?_)
      have u4 : HG true false ad δ r_30.2 := u3.t ((u4').w (by decide) (by decide))
      refine hs_ite (fun _ => ?_) (fun _ => ?_)
      · skip
        exact hs_mono (hj_X11_touches_34 L k11_a0) (fun _ hr => u4.t (hr))
      · skip
        exact hs_mono (hj_X11_touches_35 L k11_a0) (fun _ hr => u4.t (hr))
theorem hj_X1_cellsOf_27 {ad : List Nat} {h : hp} (L : Lay TLx ad h) {N : Nat} {T : Nat → Int32 → Int32 → Int32 → Int32 → dp → Option (Int32 × dp)} {a0 : Nat} {x1 : Int32} {x2 : Int32} {x3 : Int32} {x4 : Int32} {xs0 : Int32} (h_T : ∀ (y0 : Nat) (y1 : Int32) (y2 : Int32) (y3 : Int32) (y4 : Int32) (δ1 : dp), hs (T y0 y1 y2 y3 y4 δ1) (fun r => HG true true ad δ1 r.2)) {δ : dp} : hs (J_X1_cellsOf_27 N h.1 T a0 x1 x2 x3 x4 xs0 δ) (fun r => HG true true ad δ r.2) := by
  unfold J_X1_cellsOf_27
  exact hs_some HG_r
theorem hj_X1_cellsOf_17 {ad : List Nat} {h : hp} (L : Lay TLx ad h) {N : Nat} {T : Nat → Int32 → Int32 → Int32 → Int32 → dp → Option (Int32 × dp)} {a0 : Nat} {x1 : Int32} {x2 : Int32} {x3 : Int32} {x4 : Int32} (h_T : ∀ (y0 : Nat) (y1 : Int32) (y2 : Int32) (y3 : Int32) (y4 : Int32) (δ1 : dp), hs (T y0 y1 y2 y3 y4 δ1) (fun r => HG true true ad δ1 r.2)) {δ : dp} : hs (J_X1_cellsOf_17 N h.1 T a0 x1 x2 x3 x4 δ) (fun r => HG true true ad δ r.2) := by
  unfold J_X1_cellsOf_17
  refine hs_ite (fun _ => ?_) (fun _ => ?_)
  · skip
    exact hj_X1_cellsOf_27 L h_T
  · skip
    exact hj_X1_cellsOf_27 L h_T
theorem hj_X1_cellsOf_244 {ad : List Nat} {h : hp} (L : Lay TLx ad h) {N : Nat} {T : Nat → Int32 → Int32 → Int32 → Int32 → dp → Option (Int32 × dp)} {a0 : Nat} {x1 : Int32} {x2 : Int32} {x3 : Int32} {x4 : Int32} {kt163 : Int32 → Int32 → Int32 → Int32 → Int32 → dp → Option (Int32 × dp)} {x7v : Int32} {x8v : Int32} {x9v : Int32} {x10v : Int32} {x11v : Int32} (h_T : ∀ (y0 : Nat) (y1 : Int32) (y2 : Int32) (y3 : Int32) (y4 : Int32) (δ1 : dp), hs (T y0 y1 y2 y3 y4 δ1) (fun r => HG true true ad δ1 r.2)) (h_kt163 : ∀ (y0 : Int32) (y1 : Int32) (y2 : Int32) (y3 : Int32) (y4 : Int32) (δ1 : dp), hs (kt163 y0 y1 y2 y3 y4 δ1) (fun r => HG true true ad δ1 r.2)) {δ : dp} : hs (J_X1_cellsOf_244 N h.1 T a0 x1 x2 x3 x4 kt163 x7v x8v x9v x10v x11v δ) (fun r => HG true true ad δ r.2) := by
  unfold J_X1_cellsOf_244
  refine hs_biv (fun x_19 _ => ?_)
  exact h_kt163 x7v x8v x9v x10v x_19 δ
theorem hj_X1_cellsOf_213 {ad : List Nat} {h : hp} (L : Lay TLx ad h) {N : Nat} {T : Nat → Int32 → Int32 → Int32 → Int32 → dp → Option (Int32 × dp)} {a0 : Nat} {x1 : Int32} {x2 : Int32} {x3 : Int32} {x4 : Int32} {kt163 : Int32 → Int32 → Int32 → Int32 → Int32 → dp → Option (Int32 × dp)} {xs0 : Int32} {x7v : Int32} {x8v : Int32} {x9v : Int32} {x10v : Int32} {x11v : Int32} (h_T : ∀ (y0 : Nat) (y1 : Int32) (y2 : Int32) (y3 : Int32) (y4 : Int32) (δ1 : dp), hs (T y0 y1 y2 y3 y4 δ1) (fun r => HG true true ad δ1 r.2)) (h_kt163 : ∀ (y0 : Int32) (y1 : Int32) (y2 : Int32) (y3 : Int32) (y4 : Int32) (δ1 : dp), hs (kt163 y0 y1 y2 y3 y4 δ1) (fun r => HG true true ad δ1 r.2)) {δ : dp} : hs (J_X1_cellsOf_213 N h.1 T a0 x1 x2 x3 x4 kt163 xs0 x7v x8v x9v x10v x11v δ) (fun r => HG true true ad δ r.2) := by
  unfold J_X1_cellsOf_213
  refine hs_ite (fun _ => ?_) (fun _ => ?_)
  · skip
    exact hj_X1_cellsOf_244 L h_T h_kt163
  · skip
    refine hs_bind (h_T a0 x10v (x11v + (1 : Int32)) x3 x8v δ) (fun r_21 u1' => ?_)
    have u1 : HG true true ad δ r_21.2 := u1'
    refine hs_biv (fun x_22 _ => ?_)
    refine hs_biv (fun x_24 _ => ?_)
    exact hs_mono (hj_X1_cellsOf_244 L h_T h_kt163) (fun _ hr => u1.t (hr))
theorem hj_X1_cellsOf_208 {ad : List Nat} {h : hp} (L : Lay TLx ad h) {N : Nat} {T : Nat → Int32 → Int32 → Int32 → Int32 → dp → Option (Int32 × dp)} {a0 : Nat} {x1 : Int32} {x2 : Int32} {x3 : Int32} {x4 : Int32} {kt163 : Int32 → Int32 → Int32 → Int32 → Int32 → dp → Option (Int32 × dp)} {x7v : Int32} {x8v : Int32} {x9v : Int32} {x10v : Int32} {x11v : Int32} (h_T : ∀ (y0 : Nat) (y1 : Int32) (y2 : Int32) (y3 : Int32) (y4 : Int32) (δ1 : dp), hs (T y0 y1 y2 y3 y4 δ1) (fun r => HG true true ad δ1 r.2)) (h_kt163 : ∀ (y0 : Int32) (y1 : Int32) (y2 : Int32) (y3 : Int32) (y4 : Int32) (δ1 : dp), hs (kt163 y0 y1 y2 y3 y4 δ1) (fun r => HG true true ad δ1 r.2)) {δ : dp} : hs (J_X1_cellsOf_208 N h.1 T a0 x1 x2 x3 x4 kt163 x7v x8v x9v x10v x11v δ) (fun r => HG true true ad δ r.2) := by
  unfold J_X1_cellsOf_208
  exact hj_X1_cellsOf_213 L h_T h_kt163
theorem hl_X1_cellsOf_163 {ad : List Nat} {h : hp} (L : Lay TLx ad h) {N : Nat} {T : Nat → Int32 → Int32 → Int32 → Int32 → dp → Option (Int32 × dp)} {a0 : Nat} {x1 : Int32} {x2 : Int32} {x3 : Int32} {x4 : Int32} (h_T : ∀ (y0 : Nat) (y1 : Int32) (y2 : Int32) (y3 : Int32) (y4 : Int32) (δ1 : dp), hs (T y0 y1 y2 y3 y4 δ1) (fun r => HG true true ad δ1 r.2)) : ∀ (n : Nat) (x7v : Int32) (x8v : Int32) (x9v : Int32) (x10v : Int32) (x11v : Int32) (δ : dp), hs (L_X1_cellsOf_163 N h.1 T a0 x1 x2 x3 x4 n x7v x8v x9v x10v x11v δ) (fun r => HG true true ad δ r.2) := by
  intro n
  induction n with
  | zero => intro x7v x8v x9v x10v x11v δ; unfold L_X1_cellsOf_163; exact hs_none
  | succ n ih =>
    intro x7v x8v x9v x10v x11v δ
    unfold L_X1_cellsOf_163
    refine hs_ite (fun _ => ?_) (fun _ => ?_)
    · skip
      exact hs_some HG_r
    · skip
      refine hs_ite (fun _ => ?_) (fun _ => ?_)
      · skip
        exact hj_X1_cellsOf_208 L h_T ih
      · skip
        refine hs_ob (fun b_26 hb_26 => ?_)
        refine hs_gd (fun gz1 => ?_)
        refine hs_ob (fun b_28 hb_28 => ?_)
        refine hs_gd (fun gz2 => ?_)
        refine hs_ite (fun _ => ?_) (fun _ => ?_)
        · skip
          exact hj_X1_cellsOf_213 L h_T ih
        · skip
          exact hj_X1_cellsOf_208 L h_T ih
theorem hj_X1_cellsOf_123 {ad : List Nat} {h : hp} (L : Lay TLx ad h) {N : Nat} {T : Nat → Int32 → Int32 → Int32 → Int32 → dp → Option (Int32 × dp)} {a0 : Nat} {x1 : Int32} {x2 : Int32} {x3 : Int32} {x4 : Int32} {x6v : Int32} {x7v : Int32} (h_T : ∀ (y0 : Nat) (y1 : Int32) (y2 : Int32) (y3 : Int32) (y4 : Int32) (δ1 : dp), hs (T y0 y1 y2 y3 y4 δ1) (fun r => HG true true ad δ1 r.2)) {δ : dp} : hs (J_X1_cellsOf_123 N h.1 T a0 x1 x2 x3 x4 x6v x7v δ) (fun r => HG true true ad δ r.2) := by
  unfold J_X1_cellsOf_123
  refine hs_ob (fun b_10 hb_10 => ?_)
  refine hs_bind (hf_X5_lowerBits L) (fun r_12 u1' => ?_)
  have u1 : HG true true ad δ r_12.2 := u1'
  refine hs_bind (h_T a0 x6v x7v (x3 + r_12.1) (x4 - r_12.1) r_12.2) (fun r_13 u2' => ?_)
  have u2 : HG true true ad δ r_13.2 := u1.t (u2')
  refine hs_biv (fun x_14 _ => ?_)
  exact hs_mono (hl_X1_cellsOf_163 L h_T N x7v r_12.1 x_14 x6v x6v r_13.2) (fun _ hr => u2.t (hr))
theorem hl_X1_cellsOf_80 {ad : List Nat} {h : hp} (L : Lay TLx ad h) {N : Nat} {T : Nat → Int32 → Int32 → Int32 → Int32 → dp → Option (Int32 × dp)} {a0 : Nat} {x1 : Int32} {x2 : Int32} {x3 : Int32} {x4 : Int32} (h_T : ∀ (y0 : Nat) (y1 : Int32) (y2 : Int32) (y3 : Int32) (y4 : Int32) (δ1 : dp), hs (T y0 y1 y2 y3 y4 δ1) (fun r => HG true true ad δ1 r.2)) : ∀ (n : Nat) (x5v : Int32) (x6v : Int32) (x7v : Int32) (δ : dp), hs (L_X1_cellsOf_80 N h.1 T a0 x1 x2 x3 x4 n x5v x6v x7v δ) (fun r => HG true true ad δ r.2) := by
  intro n
  induction n with
  | zero => intro x5v x6v x7v δ; unfold L_X1_cellsOf_80; exact hs_none
  | succ n ih =>
    intro x5v x6v x7v δ
    unfold L_X1_cellsOf_80
    refine hs_ite (fun _ => ?_) (fun _ => ?_)
    · skip
      exact hj_X1_cellsOf_123 L h_T
    · skip
      refine hs_ob (fun b_31 hb_31 => ?_)
      refine hs_gd (fun gz1 => ?_)
      refine hs_ob (fun b_33 hb_33 => ?_)
      refine hs_gd (fun gz2 => ?_)
      refine hs_ite (fun _ => ?_) (fun _ => ?_)
      · skip
        refine hs_biv (fun x_36 _ => ?_)
        exact ih x5v x6v x_36 δ
      · skip
        exact hj_X1_cellsOf_123 L h_T
theorem hj_X1_cellsOf_77 {ad : List Nat} {h : hp} (L : Lay TLx ad h) {N : Nat} {T : Nat → Int32 → Int32 → Int32 → Int32 → dp → Option (Int32 × dp)} {a0 : Nat} {x1 : Int32} {x2 : Int32} {x3 : Int32} {x4 : Int32} {x5v : Int32} {x6v : Int32} (h_T : ∀ (y0 : Nat) (y1 : Int32) (y2 : Int32) (y3 : Int32) (y4 : Int32) (δ1 : dp), hs (T y0 y1 y2 y3 y4 δ1) (fun r => HG true true ad δ1 r.2)) {δ : dp} : hs (J_X1_cellsOf_77 N h.1 T a0 x1 x2 x3 x4 x5v x6v δ) (fun r => HG true true ad δ r.2) := by
  unfold J_X1_cellsOf_77
  exact hl_X1_cellsOf_80 L h_T N x5v x6v x2 δ
theorem hl_X1_cellsOf_39 {ad : List Nat} {h : hp} (L : Lay TLx ad h) {N : Nat} {T : Nat → Int32 → Int32 → Int32 → Int32 → dp → Option (Int32 × dp)} {a0 : Nat} {x1 : Int32} {x2 : Int32} {x3 : Int32} {x4 : Int32} (h_T : ∀ (y0 : Nat) (y1 : Int32) (y2 : Int32) (y3 : Int32) (y4 : Int32) (δ1 : dp), hs (T y0 y1 y2 y3 y4 δ1) (fun r => HG true true ad δ1 r.2)) : ∀ (n : Nat) (x5v : Int32) (x6v : Int32) (δ : dp), hs (L_X1_cellsOf_39 N h.1 T a0 x1 x2 x3 x4 n x5v x6v δ) (fun r => HG true true ad δ r.2) := by
  intro n
  induction n with
  | zero => intro x5v x6v δ; unfold L_X1_cellsOf_39; exact hs_none
  | succ n ih =>
    intro x5v x6v δ
    unfold L_X1_cellsOf_39
    refine hs_ite (fun _ => ?_) (fun _ => ?_)
    · skip
      exact hj_X1_cellsOf_77 L h_T
    · skip
      refine hs_ob (fun b_38 hb_38 => ?_)
      refine hs_gd (fun gz1 => ?_)
      refine hs_ob (fun b_40 hb_40 => ?_)
      refine hs_gd (fun gz2 => ?_)
      refine hs_ite (fun _ => ?_) (fun _ => ?_)
      · skip
        refine hs_biv (fun x_43 _ => ?_)
        exact ih x5v x_43 δ
      · skip
        exact hj_X1_cellsOf_77 L h_T
theorem hb_X1_cellsOf {ad : List Nat} {h : hp} (L : Lay TLx ad h) {N : Nat} {T : Nat → Int32 → Int32 → Int32 → Int32 → dp → Option (Int32 × dp)} {a0 : Nat} {x1 : Int32} {x2 : Int32} {x3 : Int32} {x4 : Int32} (h_T : ∀ (y0 : Nat) (y1 : Int32) (y2 : Int32) (y3 : Int32) (y4 : Int32) (δ1 : dp), hs (T y0 y1 y2 y3 y4 δ1) (fun r => HG true true ad δ1 r.2)) {δ : dp} : hs (B_X1_cellsOf N h.1 T a0 x1 x2 x3 x4 δ) (fun r => HG true true ad δ r.2) := by
  unfold B_X1_cellsOf
  refine hs_ite (fun _ => ?_) (fun _ => ?_)
  · skip
    exact hj_X1_cellsOf_17 L h_T
  · skip
    refine hs_ob (fun b_3 hb_3 => ?_)
    refine hs_ite (fun _ => ?_) (fun _ => ?_)
    · skip
      refine hs_biv (fun x_6 _ => ?_)
      exact hl_X1_cellsOf_39 L h_T N x_6 x1 δ
    · skip
      exact hj_X1_cellsOf_17 L h_T
theorem he_X1_cellsOf {ad : List Nat} {h : hp} (L : Lay TLx ad h) {N : Nat} : ∀ (k : Nat) (a0 : Nat) (x1 : Int32) (x2 : Int32) (x3 : Int32) (x4 : Int32) (δ : dp), hs (E_X1_cellsOf N h.1 k a0 x1 x2 x3 x4 δ) (fun r => HG true true ad δ r.2) := by
  intro k
  induction k with
  | zero => intro a0 x1 x2 x3 x4 δ ; unfold E_X1_cellsOf; exact hs_none
  | succ k ih =>
    intro a0 x1 x2 x3 x4 δ 
    unfold E_X1_cellsOf
    exact hb_X1_cellsOf L  ih
theorem hf_X1_cellsOf {ad : List Nat} {h : hp} (L : Lay TLx ad h) {N : Nat} {a0 : Nat} {x1 : Int32} {x2 : Int32} {x3 : Int32} {x4 : Int32}  {δ : dp} : hs (D_X1_cellsOf N h.1 a0 x1 x2 x3 x4 δ) (fun r => HG true true ad δ r.2) := by
  unfold D_X1_cellsOf
  exact he_X1_cellsOf L 20 a0 x1 x2 x3 x4 δ
theorem hf_X1_allCells {ad : List Nat} {h : hp} (L : Lay TLx ad h) {N : Nat} {a0 : Nat}  {δ : dp} : hs (D_X1_allCells N h.1 a0 δ) (fun r => HG true true ad δ r.2) := by
  unfold D_X1_allCells
  refine hs_ob (fun b_1 hb_1 => ?_)
  refine hs_ob (fun b_3 hb_3 => ?_)
  refine hs_bind (hf_X1_cellsOf L) (fun r_5 u1' => ?_)
  have u1 : HG true true ad δ r_5.2 := u1'
  exact hs_some u1
theorem hj_X11_size_62 {ad : List Nat} {h : hp} (L : Lay TLx ad h) {N : Nat} {a0 : Nat} {x1 : Int32} {x2 : Int32} {xs0 : Int32}  {δ : dp} : hs (J_X11_size_62 N h.1 a0 x1 x2 xs0 δ) (fun r => HG true true ad δ r.2) := by
  unfold J_X11_size_62
  exact hs_some HG_r
theorem hf_X11_size {ad : List Nat} {h : hp} (L : Lay TLx ad h) {N : Nat} {a0 : Nat} {x1 : Int32} {x2 : Int32} (k11_a0 : q_K h.1 a0 = 11) {δ : dp} : hs (D_X11_size N h.1 a0 x1 x2 δ) (fun r => HG true false ad δ r.2) := by
  unfold D_X11_size
  refine hs_bxv (hf_X11_needHouse L k11_a0) (fun _ _ u1' => u1') (fun δ_3 u1' => ?_)
  have u1 : HG true false ad δ δ_3 := u1'
  refine hs_bind (hf_X11_isKind L) (fun r_4 u2' => ?_)
  have u2 : HG true false ad δ r_4.2 := u1.t ((u2').w (by decide) (by decide))
  refine hs_bxv (hf_X11_need L k11_a0) (fun _ _ u3' => u2.t (u3')) (fun δ_7 u3' => ?_)
  have u3 : HG true false ad δ δ_7 := u2.t (u3')
  refine hs_ite (fun _ => ?_) (fun _ => ?_)
  · skip
    refine hs_ob (fun b_20 hb_20 => ?_)
    refine hs_gd (fun gz4 => ?_)
    refine hs_ob (fun b_22 hb_22 => ?_)
    refine hs_ob (fun b_24 hb_24 => ?_)
    refine hs_bind (hf_X1_allCells L) (fun r_26 u5' => ?_)
    have u5 : HG true false ad δ r_26.2 := u3.t ((u5').w (by decide) (by decide))
    exact hs_some u5
  · skip
    refine hs_ite (fun _ => ?_) (fun _ => ?_)
    · skip
      refine hs_ob (fun b_16 hb_16 => ?_)
      refine hs_bind (hf_X5_greatest L) (fun r_18 u6' => ?_)
      have u6 : HG true false ad δ r_18.2 := u3.t ((u6').w (by decide) (by decide))
      refine hs_bind (hf_X3_wordOf L) (fun r_19 u7' => ?_)
      have u7 : HG true false ad δ r_19.2 := u6.t ((u7').w (by decide) (by decide))
      exact hs_mono (hj_X11_size_62 L) (fun _ hr => u7.t ((hr).w (by decide) (by decide)))
    · skip
      refine hs_ob (fun b_10 hb_10 => ?_)
      refine hs_gd (fun gz8 => ?_)
      refine hs_ob (fun b_12 hb_12 => ?_)
      refine hs_ob (fun b_14 hb_14 => ?_)
      exact hs_mono (hj_X11_size_62 L) (fun _ hr => u3.t ((hr).w (by decide) (by decide)))
theorem hj_X5_mostTouches_27 {ad : List Nat} {h : hp} (L : Lay TLx ad h) {N : Nat} {T : Nat → Int32 → Int32 → Int32 → dp → Option (Int32 × dp)} {a0 : Nat} {x1 : Int32} {x2 : Int32} {x3 : Int32} (h_T : ∀ (y0 : Nat) (y1 : Int32) (y2 : Int32) (y3 : Int32) (δ1 : dp), hs (T y0 y1 y2 y3 δ1) (fun r => HG true true ad δ1 r.2)) {δ : dp} : hs (J_X5_mostTouches_27 N h.1 T a0 x1 x2 x3 δ) (fun r => HG true true ad δ r.2) := by
  unfold J_X5_mostTouches_27
  exact hs_some HG_r
theorem hj_X5_mostTouches_115 {ad : List Nat} {h : hp} (L : Lay TLx ad h) {N : Nat} {T : Nat → Int32 → Int32 → Int32 → dp → Option (Int32 × dp)} {a0 : Nat} {x1 : Int32} {x2 : Int32} {x3 : Int32} {xs0 : Int32} {x6v : Int32} {x7v : Int32} (h_T : ∀ (y0 : Nat) (y1 : Int32) (y2 : Int32) (y3 : Int32) (δ1 : dp), hs (T y0 y1 y2 y3 δ1) (fun r => HG true true ad δ1 r.2)) {δ : dp} : hs (J_X5_mostTouches_115 N h.1 T a0 x1 x2 x3 xs0 x6v x7v δ) (fun r => HG true true ad δ r.2) := by
  unfold J_X5_mostTouches_115
  refine hs_bind (hf_J9_max_7cf53 L) (fun r_16 u1' => ?_)
  have u1 : HG true true ad δ r_16.2 := u1'
  exact hs_some u1
theorem hj_X5_mostTouches_97 {ad : List Nat} {h : hp} (L : Lay TLx ad h) {N : Nat} {T : Nat → Int32 → Int32 → Int32 → dp → Option (Int32 × dp)} {a0 : Nat} {x1 : Int32} {x2 : Int32} {x3 : Int32} {x6v : Int32} {x7v : Int32} (h_T : ∀ (y0 : Nat) (y1 : Int32) (y2 : Int32) (y3 : Int32) (δ1 : dp), hs (T y0 y1 y2 y3 δ1) (fun r => HG true true ad δ1 r.2)) {δ : dp} : hs (J_X5_mostTouches_97 N h.1 T a0 x1 x2 x3 x6v x7v δ) (fun r => HG true true ad δ r.2) := by
  unfold J_X5_mostTouches_97
  refine hs_ite (fun _ => ?_) (fun _ => ?_)
  · skip
    exact hj_X5_mostTouches_115 L h_T
  · skip
    refine hs_ite (fun _ => ?_) (fun _ => ?_)
    · skip
      exact hj_X5_mostTouches_115 L h_T
    · skip
      exact hj_X5_mostTouches_115 L h_T
theorem hj_X5_mostTouches_94 {ad : List Nat} {h : hp} (L : Lay TLx ad h) {N : Nat} {T : Nat → Int32 → Int32 → Int32 → dp → Option (Int32 × dp)} {a0 : Nat} {x1 : Int32} {x2 : Int32} {x3 : Int32} {x6v : Int32} {x7v : Int32} (h_T : ∀ (y0 : Nat) (y1 : Int32) (y2 : Int32) (y3 : Int32) (δ1 : dp), hs (T y0 y1 y2 y3 δ1) (fun r => HG true true ad δ1 r.2)) {δ : dp} : hs (J_X5_mostTouches_94 N h.1 T a0 x1 x2 x3 x6v x7v δ) (fun r => HG true true ad δ r.2) := by
  unfold J_X5_mostTouches_94
  refine hs_biv (fun x_12 _ => ?_)
  exact hj_X5_mostTouches_97 L h_T
theorem hj_X5_mostTouches_54 {ad : List Nat} {h : hp} (L : Lay TLx ad h) {N : Nat} {T : Nat → Int32 → Int32 → Int32 → dp → Option (Int32 × dp)} {a0 : Nat} {x1 : Int32} {x2 : Int32} {x3 : Int32} {xs0 : Int32} {x4v : Int32} {x5v : Int32} (h_T : ∀ (y0 : Nat) (y1 : Int32) (y2 : Int32) (y3 : Int32) (δ1 : dp), hs (T y0 y1 y2 y3 δ1) (fun r => HG true true ad δ1 r.2)) {δ : dp} : hs (J_X5_mostTouches_54 N h.1 T a0 x1 x2 x3 xs0 x4v x5v δ) (fun r => HG true true ad δ r.2) := by
  unfold J_X5_mostTouches_54
  refine hs_ite (fun _ => ?_) (fun _ => ?_)
  · skip
    exact hs_some HG_r
  · skip
    refine hs_bind (h_T a0 x1 (x2 - x5v) x4v δ) (fun r_10 u1' => ?_)
    have u1 : HG true true ad δ r_10.2 := u1'
    refine hs_ite (fun _ => ?_) (fun _ => ?_)
    · skip
      exact hs_mono (hj_X5_mostTouches_94 L h_T) (fun _ hr => u1.t (hr))
    · skip
      refine hs_ite (fun _ => ?_) (fun _ => ?_)
      · skip
        exact hs_mono (hj_X5_mostTouches_94 L h_T) (fun _ hr => u1.t (hr))
      · skip
        refine hs_ite (fun _ => ?_) (fun _ => ?_)
        · skip
          exact hs_mono (hj_X5_mostTouches_97 L h_T) (fun _ hr => u1.t (hr))
        · skip
          exact hs_mono (hj_X5_mostTouches_94 L h_T) (fun _ hr => u1.t (hr))
theorem hj_X5_mostTouches_29 {ad : List Nat} {h : hp} (L : Lay TLx ad h) {N : Nat} {T : Nat → Int32 → Int32 → Int32 → dp → Option (Int32 × dp)} {a0 : Nat} {x1 : Int32} {x2 : Int32} {x3 : Int32} {x4v : Int32} (h_T : ∀ (y0 : Nat) (y1 : Int32) (y2 : Int32) (y3 : Int32) (δ1 : dp), hs (T y0 y1 y2 y3 δ1) (fun r => HG true true ad δ1 r.2)) {δ : dp} : hs (J_X5_mostTouches_29 N h.1 T a0 x1 x2 x3 x4v δ) (fun r => HG true true ad δ r.2) := by
  unfold J_X5_mostTouches_29
  refine hs_bind (hf_X5_lowerBits L) (fun r_6 u1' => ?_)
  have u1 : HG true true ad δ r_6.2 := u1'
  refine hs_ite (fun _ => ?_) (fun _ => ?_)
  · skip
    exact hs_mono (hj_X5_mostTouches_54 L h_T) (fun _ hr => u1.t (hr))
  · skip
    refine hs_bind (h_T a0 x1 r_6.1 x4v r_6.2) (fun r_8 u2' => ?_)
    have u2 : HG true true ad δ r_8.2 := u1.t (u2')
    exact hs_mono (hj_X5_mostTouches_54 L h_T) (fun _ hr => u2.t (hr))
theorem hb_X5_mostTouches {ad : List Nat} {h : hp} (L : Lay TLx ad h) {N : Nat} {T : Nat → Int32 → Int32 → Int32 → dp → Option (Int32 × dp)} {a0 : Nat} {x1 : Int32} {x2 : Int32} {x3 : Int32} (h_T : ∀ (y0 : Nat) (y1 : Int32) (y2 : Int32) (y3 : Int32) (δ1 : dp), hs (T y0 y1 y2 y3 δ1) (fun r => HG true true ad δ1 r.2)) {δ : dp} : hs (B_X5_mostTouches N h.1 T a0 x1 x2 x3 δ) (fun r => HG true true ad δ r.2) := by
  unfold B_X5_mostTouches
  refine hs_biv (fun x_1 _ => ?_)
  refine hs_ite (fun _ => ?_) (fun _ => ?_)
  · skip
    exact hj_X5_mostTouches_27 L h_T
  · skip
    refine hs_ite (fun _ => ?_) (fun _ => ?_)
    · skip
      exact hj_X5_mostTouches_27 L h_T
    · skip
      refine hs_ite (fun _ => ?_) (fun _ => ?_)
      · skip
        refine hs_ite (fun _ => ?_) (fun _ => ?_)
        · skip
          exact hj_X5_mostTouches_29 L h_T
        · skip
          exact hj_X5_mostTouches_27 L h_T
      · skip
        exact hj_X5_mostTouches_29 L h_T
theorem he_X5_mostTouches {ad : List Nat} {h : hp} (L : Lay TLx ad h) {N : Nat} : ∀ (k : Nat) (a0 : Nat) (x1 : Int32) (x2 : Int32) (x3 : Int32) (δ : dp), hs (E_X5_mostTouches N h.1 k a0 x1 x2 x3 δ) (fun r => HG true true ad δ r.2) := by
  intro k
  induction k with
  | zero => intro a0 x1 x2 x3 δ ; unfold E_X5_mostTouches; exact hs_none
  | succ k ih =>
    intro a0 x1 x2 x3 δ 
    unfold E_X5_mostTouches
    exact hb_X5_mostTouches L  ih
theorem hf_X5_mostTouches {ad : List Nat} {h : hp} (L : Lay TLx ad h) {N : Nat} {a0 : Nat} {x1 : Int32} {x2 : Int32} {x3 : Int32}  {δ : dp} : hs (D_X5_mostTouches N h.1 a0 x1 x2 x3 δ) (fun r => HG true true ad δ r.2) := by
  unfold D_X5_mostTouches
  exact he_X5_mostTouches L 20 a0 x1 x2 x3 δ
theorem hf_X5_boundOf {ad : List Nat} {h : hp} (L : Lay TLx ad h) {N : Nat} {a0 : Nat} {x1 : Int32}  {δ : dp} : hs (D_X5_boundOf N h.1 a0 x1 δ) (fun r => HG true true ad δ r.2) := by
  unfold D_X5_boundOf
  refine hs_bind (hf_X5_mostTouches L) (fun r_1 u1' => ?_)
  have u1 : HG true true ad δ r_1.2 := u1'
  exact hs_some u1
theorem hf_X11_bound {ad : List Nat} {h : hp} (L : Lay TLx ad h) {N : Nat} {a0 : Nat} {x1 : Int32} (k11_a0 : q_K h.1 a0 = 11) {δ : dp} : hs (D_X11_bound N h.1 a0 x1 δ) (fun r => HG true false ad δ r.2) := by
  unfold D_X11_bound
  refine hs_bind (hf_X11_isCall L) (fun r_1 u1' => ?_)
  have u1 : HG true false ad δ r_1.2 := (u1').w (by decide) (by decide)
  refine hs_bxv (hf_X11_need L k11_a0) (fun _ _ u2' => u1.t (u2')) (fun δ_4 u2' => ?_)
  have u2 : HG true false ad δ δ_4 := u1.t (u2')
  refine hs_ob (fun b_5 hb_5 => ?_)
  refine hs_bind (hf_X5_boundOf L) (fun r_7 u3' => ?_)
  have u3 : HG true false ad δ r_7.2 := u2.t ((u3').w (by decide) (by decide))
  exact hs_some u3
theorem hj_X5_isSmall_14 {ad : List Nat} {h : hp} (L : Lay TLx ad h) {N : Nat} {a0 : Nat} {xs0 : Int32}  {δ : dp} : hs (J_X5_isSmall_14 N h.1 a0 xs0 δ) (fun r => HG true true ad δ r.2) := by
  unfold J_X5_isSmall_14
  refine hs_gp (fun gk1 => ?_)
  exact hs_some HG_r
theorem hf_X5_isSmall {ad : List Nat} {h : hp} (L : Lay TLx ad h) {N : Nat} {a0 : Nat}  {δ : dp} : hs (D_X5_isSmall N h.1 a0 δ) (fun r => HG true true ad δ r.2) := by
  unfold D_X5_isSmall
  refine hs_ite (fun _ => ?_) (fun _ => ?_)
  · skip
    exact hj_X5_isSmall_14 L
  · skip
    exact hj_X5_isSmall_14 L
theorem hj_X5_mostInSets_14 {ad : List Nat} {h : hp} (L : Lay TLx ad h) {N : Nat} {a0 : Nat} {xs0 : Int32}  {δ : dp} : hs (J_X5_mostInSets_14 N h.1 a0 xs0 δ) (fun r => HG true true ad δ r.2) := by
  unfold J_X5_mostInSets_14
  exact hs_some HG_r
theorem hf_X5_mostInSets {ad : List Nat} {h : hp} (L : Lay TLx ad h) {N : Nat} {a0 : Nat}  {δ : dp} : hs (D_X5_mostInSets N h.1 a0 δ) (fun r => HG true true ad δ r.2) := by
  unfold D_X5_mostInSets
  refine hs_ite (fun _ => ?_) (fun _ => ?_)
  · skip
    exact hj_X5_mostInSets_14 L
  · skip
    exact hj_X5_mostInSets_14 L
theorem hj_X11_mayGoThroughAll_37 {ad : List Nat} {h : hp} (L : Lay TLx ad h) {N : Nat} {a0 : Nat} {x1 : Int32} {x2 : Int32} {xs0 : Int32}  {δ : dp} : hs (J_X11_mayGoThroughAll_37 N h.1 a0 x1 x2 xs0 δ) (fun r => HG true true ad δ r.2) := by
  unfold J_X11_mayGoThroughAll_37
  refine hs_gp (fun gk1 => ?_)
  exact hs_some HG_r
theorem hj_X11_mayGoThroughAll_36 {ad : List Nat} {h : hp} (L : Lay TLx ad h) {N : Nat} {a0 : Nat} {x1 : Int32} {x2 : Int32}  {δ : dp} : hs (J_X11_mayGoThroughAll_36 N h.1 a0 x1 x2 δ) (fun r => HG true true ad δ r.2) := by
  unfold J_X11_mayGoThroughAll_36
  exact hj_X11_mayGoThroughAll_37 L
theorem hf_X11_mayGoThroughAll {ad : List Nat} {h : hp} (L : Lay TLx ad h) {N : Nat} {a0 : Nat} {x1 : Int32} {x2 : Int32}  {δ : dp} : hs (D_X11_mayGoThroughAll N h.1 a0 x1 x2 δ) (fun r => HG true true ad δ r.2) := by
  unfold D_X11_mayGoThroughAll
  refine hs_bind (hf_X11_isCall L) (fun r_1 u1' => ?_)
  have u1 : HG true true ad δ r_1.2 := u1'
  refine hs_ite (fun _ => ?_) (fun _ => ?_)
  · skip
    exact hs_mono (hj_X11_mayGoThroughAll_36 L) (fun _ hr => u1.t (hr))
  · skip
    refine hs_ob (fun b_3 hb_3 => ?_)
    refine hs_bind (hf_X5_isSmall L) (fun r_5 u2' => ?_)
    have u2 : HG true true ad δ r_5.2 := u1.t (u2')
    refine hs_ite (fun _ => ?_) (fun _ => ?_)
    · skip
      exact hs_mono (hj_X11_mayGoThroughAll_36 L) (fun _ hr => u2.t (hr))
    · skip
      refine hs_ite (fun _ => ?_) (fun _ => ?_)
      · skip
        exact hs_mono (hj_X11_mayGoThroughAll_36 L) (fun _ hr => u2.t (hr))
      · skip
        refine hs_ob (fun b_8 hb_8 => ?_)
        refine hs_bind (hf_X5_mostInSets L) (fun r_10 u3' => ?_)
        have u3 : HG true true ad δ r_10.2 := u2.t (u3')
        refine hs_ite (fun _ => ?_) (fun _ => ?_)
        · skip
          exact hs_mono (hj_X11_mayGoThroughAll_36 L) (fun _ hr => u3.t (hr))
        · skip
          exact hs_mono (hj_X11_mayGoThroughAll_37 L) (fun _ hr => u3.t (hr))
theorem hf_J13_bitCount_95d88 {ad : List Nat} {h : hp} (L : Lay TLx ad h) {N : Nat} {y0 : Int64}  {δ : dp} : hs (D_J13_bitCount_95d88 N h.1 y0 δ) (fun r => HG true true ad δ r.2) := by
  unfold D_J13_bitCount_95d88
  refine hs_blv (fun y_1 _ => ?_)
  refine hs_blv (fun y_3 _ => ?_)
  refine hs_blv (fun y_5 _ => ?_)
  refine hs_blv (fun y_7 _ => ?_)
  refine hs_blv (fun y_9 _ => ?_)
  refine hs_blv (fun y_11 _ => ?_)
  exact hs_some HG_r
theorem hl_X3_beFirstSet_15 {ad : List Nat} {h : hp} (L : Lay TLx ad h) {N : Nat} {a0 : Nat} {x1 : Int32} (c3_a0 : q_K h.1 a0 = 3 ∧ nh ad a0) : ∀ (n : Nat) (x2v : Int32) (δ : dp), hs (L_X3_beFirstSet_15 N h.1 a0 x1 n x2v δ) (fun r => HG true true ad δ r) := by
  intro n
  induction n with
  | zero => intro x2v δ; unfold L_X3_beFirstSet_15; exact hs_none
  | succ n ih =>
    intro x2v δ
    unfold L_X3_beFirstSet_15
    refine hs_ite (fun _ => ?_) (fun _ => ?_)
    · skip
      exact hs_some HG_r
    · skip
      refine hs_ob (fun b_7 hb_7 => ?_)
      refine hs_gd (fun gz1 => ?_)
      refine hs_bdv (fun δ_9 e2 => ?_)
      have u2 : HG true true ad δ δ_9 := HG.R HG_r e2 (nr3 L c3_a0 hb_7)
      refine hs_biv (fun x_11 _ => ?_)
      exact hs_mono (ih x_11 δ_9) (fun _ hr => u2.t (hr))
theorem hf_X3_beFirstSet {ad : List Nat} {h : hp} (L : Lay TLx ad h) {N : Nat} {a0 : Nat} {x1 : Int32} (c3_a0 : q_K h.1 a0 = 3 ∧ nh ad a0) {δ : dp} : hs (D_X3_beFirstSet N h.1 a0 x1 δ) (fun r => HG true true ad δ r) := by
  unfold D_X3_beFirstSet
  refine hs_ob (fun b_1 hb_1 => ?_)
  refine hs_bind (hf_J9_min_7cf53 L) (fun r_3 u1' => ?_)
  have u1 : HG true true ad δ r_3.2 := u1'
  refine hs_bdv (fun δ_4 e2 => ?_)
  have u2 : HG true true ad δ δ_4 := HG.M u1 e2 c3_a0.2
  exact hs_mono (hl_X3_beFirstSet_15 L c3_a0 N 0 δ_4) (fun _ hr => u2.t (hr))
theorem hl_X10_bitsOfSet_4 {ad : List Nat} {h : hp} (L : Lay TLx ad h) {N : Nat} {a0 : Nat}  : ∀ (n : Nat) (y1v : Int64) (x3v : Int32) (δ : dp), hs (L_X10_bitsOfSet_4 N h.1 a0 n y1v x3v δ) (fun r => HG true true ad δ r.2) := by
  intro n
  induction n with
  | zero => intro y1v x3v δ; unfold L_X10_bitsOfSet_4; exact hs_none
  | succ n ih =>
    intro y1v x3v δ
    unfold L_X10_bitsOfSet_4
    refine hs_ob (fun b_1 hb_1 => ?_)
    refine hs_ite (fun _ => ?_) (fun _ => ?_)
    · skip
      exact hs_some HG_r
    · skip
      refine hs_ob (fun b_4 hb_4 => ?_)
      refine hs_bind (hf_X3_at L) (fun r_6 u1' => ?_)
      have u1 : HG true true ad δ r_6.2 := u1'
      refine hs_blv (fun y_7 _ => ?_)
      refine hs_biv (fun x_9 _ => ?_)
      exact hs_mono (ih y_7 x_9 r_6.2) (fun _ hr => u1.t (hr))
theorem hf_X10_bitsOfSet {ad : List Nat} {h : hp} (L : Lay TLx ad h) {N : Nat} {a0 : Nat}  {δ : dp} : hs (D_X10_bitsOfSet N h.1 a0 δ) (fun r => HG true true ad δ r.2) := by
  unfold D_X10_bitsOfSet
  exact hl_X10_bitsOfSet_4 L N 0 0 δ
theorem hj_X10_tryAll_68 {ad : List Nat} {h : hp} (L : Lay TLx ad h) {N : Nat} {a0 : Nat} {x1 : Int32} {x2 : Int32} {kt2 : Int32 → dp → Option (dp)} {x3v : Int32} (h_kt2 : ∀ (y0 : Int32) (δ1 : dp), hs (kt2 y0 δ1) (fun r => HG true true ad δ1 r)) {δ : dp} : hs (J_X10_tryAll_68 N h.1 a0 x1 x2 kt2 x3v δ) (fun r => HG true true ad δ r) := by
  unfold J_X10_tryAll_68
  refine hs_biv (fun x_13 _ => ?_)
  exact h_kt2 x_13 δ
theorem hl_X10_tryAll_2 {ad : List Nat} {h : hp} (L : Lay TLx ad h) {N : Nat} {a0 : Nat} {x1 : Int32} {x2 : Int32} (k10_a0 : q_K h.1 a0 = 10) : ∀ (n : Nat) (x3v : Int32) (δ : dp), hs (L_X10_tryAll_2 N h.1 a0 x1 x2 n x3v δ) (fun r => HG true true ad δ r) := by
  intro n
  induction n with
  | zero => intro x3v δ; unfold L_X10_tryAll_2; exact hs_none
  | succ n ih =>
    intro x3v δ
    unfold L_X10_tryAll_2
    refine hs_ob (fun b_1 hb_1 => ?_)
    refine hs_bind (hf_X5_greatest L) (fun r_3 u1' => ?_)
    have u1 : HG true true ad δ r_3.2 := u1'
    refine hs_ite (fun _ => ?_) (fun _ => ?_)
    · skip
      exact hs_some u1
    · skip
      refine hs_ob (fun b_5 hb_5 => ?_)
      refine hs_bind (hf_X1_touchesOf L) (fun r_7 u2' => ?_)
      have u2 : HG true true ad δ r_7.2 := u1.t (u2')
      refine hs_ob (fun b_8 hb_8 => ?_)
      refine hs_gd (fun gz3 => ?_)
      refine hs_ob (fun b_10 hb_10 => ?_)
      refine hs_gd (fun gz4 => ?_)
      refine hs_ite (fun _ => ?_) (fun _ => ?_)
      · skip
        exact hs_mono (hj_X10_tryAll_68 L ih) (fun _ hr => u2.t (hr))
      · skip
        refine hs_ob (fun b_15 hb_15 => ?_)
        refine hs_gd (fun gz5 => ?_)
        refine hs_ob (fun b_17 hb_17 => ?_)
        refine hs_gd (fun gz6 => ?_)
        refine hs_bdv (fun δ_19 e7 => ?_)
        have u7 : HG true true ad δ δ_19 := HG.R u2 e7 (nrE_10_4 L k10_a0 hb_15 (Nat.lt_of_not_le (fun z => gz5 (Or.inr z))) hb_17)
        refine hs_ob (fun b_21 hb_21 => ?_)
        refine hs_gd (fun gz8 => ?_)
        refine hs_ob (fun b_23 hb_23 => ?_)
        refine hs_gd (fun gz9 => ?_)
        refine hs_bdv (fun δ_25 e10 => ?_)
        have u10 : HG true true ad δ δ_25 := HG.R u7 e10 (nrE_10_5 L k10_a0 hb_21 (Nat.lt_of_not_le (fun z => gz8 (Or.inr z))) hb_23)
        refine hs_ob (fun b_27 hb_27 => ?_)
        refine hs_gd (fun gz11 => ?_)
        refine hs_ob (fun b_29 hb_29 => ?_)
        refine hs_bind (hf_X10_bitsOfSet L) (fun r_31 u12' => ?_)
        have u12 : HG true true ad δ r_31.2 := u10.t (u12')
        refine hs_gd (fun gz13 => ?_)
        refine hs_bdv (fun δ_32 e14 => ?_)
        have u14 : HG true true ad δ δ_32 := HG.J u12 e14
        exact hs_mono (hj_X10_tryAll_68 L ih) (fun _ hr => u14.t (hr))
theorem hf_X10_tryAll {ad : List Nat} {h : hp} (L : Lay TLx ad h) {N : Nat} {a0 : Nat} {x1 : Int32} {x2 : Int32} (k10_a0 : q_K h.1 a0 = 10) {δ : dp} : hs (D_X10_tryAll N h.1 a0 x1 x2 δ) (fun r => HG true true ad δ r) := by
  unfold D_X10_tryAll
  exact hl_X10_tryAll_2 L k10_a0 N 0 δ
theorem hl_X3_beNextSet_58 {ad : List Nat} {h : hp} (L : Lay TLx ad h) {N : Nat} {a0 : Nat} {x1 : Int32} (c3_a0 : q_K h.1 a0 = 3 ∧ nh ad a0) : ∀ (n : Nat) (x2v : Int32) (x4v : Int32) (δ : dp), hs (L_X3_beNextSet_58 N h.1 a0 x1 n x2v x4v δ) (fun r => HG true true ad δ r.2) := by
  intro n
  induction n with
  | zero => intro x2v x4v δ; unfold L_X3_beNextSet_58; exact hs_none
  | succ n ih =>
    intro x2v x4v δ
    unfold L_X3_beNextSet_58
    refine hs_ite (fun _ => ?_) (fun _ => ?_)
    · skip
      refine hs_gp (fun gk1 => ?_)
      exact hs_some HG_r
    · skip
      refine hs_ob (fun b_13 hb_13 => ?_)
      refine hs_gd (fun gz2 => ?_)
      refine hs_bdv (fun δ_15 e3 => ?_)
      have u3 : HG true true ad δ δ_15 := HG.R HG_r e3 (nr3 L c3_a0 hb_13)
      refine hs_biv (fun x_17 _ => ?_)
      exact hs_mono (ih x2v x_17 δ_15) (fun _ hr => u3.t (hr))
theorem hj_X3_beNextSet_32 {ad : List Nat} {h : hp} (L : Lay TLx ad h) {N : Nat} {a0 : Nat} {x1 : Int32} {kt2 : Int32 → dp → Option (Int32 × dp)} {xs0 : Int32} {x2v : Int32} (c3_a0 : q_K h.1 a0 = 3 ∧ nh ad a0) (h_kt2 : ∀ (y0 : Int32) (δ1 : dp), hs (kt2 y0 δ1) (fun r => HG true true ad δ1 r.2)) {δ : dp} : hs (J_X3_beNextSet_32 N h.1 a0 x1 kt2 xs0 x2v δ) (fun r => HG true true ad δ r.2) := by
  unfold J_X3_beNextSet_32
  refine hs_ob (fun b_3 hb_3 => ?_)
  refine hs_gd (fun gz1 => ?_)
  refine hs_ite (fun _ => ?_) (fun _ => ?_)
  · skip
    refine hs_biv (fun x_6 _ => ?_)
    exact h_kt2 x_6 δ
  · skip
    refine hs_ob (fun b_8 hb_8 => ?_)
    refine hs_gd (fun gz2 => ?_)
    refine hs_gd (fun gz3 => ?_)
    refine hs_bdv (fun δ_10 e4 => ?_)
    have u4 : HG true true ad δ δ_10 := HG.R HG_r e4 (nr3 L c3_a0 hb_8)
    exact hs_mono (hl_X3_beNextSet_58 L c3_a0 N x2v 0 δ_10) (fun _ hr => u4.t (hr))
theorem hl_X3_beNextSet_2 {ad : List Nat} {h : hp} (L : Lay TLx ad h) {N : Nat} {a0 : Nat} {x1 : Int32} (c3_a0 : q_K h.1 a0 = 3 ∧ nh ad a0) : ∀ (n : Nat) (x2v : Int32) (δ : dp), hs (L_X3_beNextSet_2 N h.1 a0 x1 n x2v δ) (fun r => HG true true ad δ r.2) := by
  intro n
  induction n with
  | zero => intro x2v δ; unfold L_X3_beNextSet_2; exact hs_none
  | succ n ih =>
    intro x2v δ
    unfold L_X3_beNextSet_2
    refine hs_ite (fun _ => ?_) (fun _ => ?_)
    · skip
      refine hs_gp (fun gk1 => ?_)
      exact hs_some HG_r
    · skip
      refine hs_ite (fun _ => ?_) (fun _ => ?_)
      · skip
        exact hj_X3_beNextSet_32 L c3_a0 ih
      · skip
        refine hs_ob (fun b_19 hb_19 => ?_)
        refine hs_gd (fun gz2 => ?_)
        exact hj_X3_beNextSet_32 L c3_a0 ih
theorem hf_X3_beNextSet {ad : List Nat} {h : hp} (L : Lay TLx ad h) {N : Nat} {a0 : Nat} {x1 : Int32} (c3_a0 : q_K h.1 a0 = 3 ∧ nh ad a0) {δ : dp} : hs (D_X3_beNextSet N h.1 a0 x1 δ) (fun r => HG true true ad δ r.2) := by
  unfold D_X3_beNextSet
  exact hl_X3_beNextSet_2 L c3_a0 N 0 δ
theorem hj_X10_goThroughAll_98 {ad : List Nat} {h : hp} (L : Lay TLx ad h) {N : Nat} {a0 : Nat} {x1 : Int32} {x2 : Int32}  {δ : dp} : hs (J_X10_goThroughAll_98 N h.1 a0 x1 x2 δ) (fun r => HG true true ad δ r) := by
  unfold J_X10_goThroughAll_98
  exact hs_some HG_r
theorem hl_X10_goThroughAll_51 {ad : List Nat} {h : hp} (L : Lay TLx ad h) {N : Nat} {a0 : Nat} {x1 : Int32} {x2 : Int32} (k10_a0 : q_K h.1 a0 = 10) : ∀ (n : Nat) (x3v : Int32) (x4v : Int32) (x5v : Int32) (x6v : Int32) (δ : dp), hs (L_X10_goThroughAll_51 N h.1 a0 x1 x2 n x3v x4v x5v x6v δ) (fun r => HG true true ad δ r) := by
  intro n
  induction n with
  | zero => intro x3v x4v x5v x6v δ; unfold L_X10_goThroughAll_51; exact hs_none
  | succ n ih =>
    intro x3v x4v x5v x6v δ
    unfold L_X10_goThroughAll_51
    refine hs_ite (fun _ => ?_) (fun _ => ?_)
    · skip
      exact hj_X10_goThroughAll_98 L
    · skip
      refine hs_ite (fun _ => ?_) (fun _ => ?_)
      · skip
        exact hj_X10_goThroughAll_98 L
      · skip
        refine hs_ob (fun b_17 hb_17 => ?_)
        refine hs_gd (fun gz1 => ?_)
        refine hs_ob (fun b_19 hb_19 => ?_)
        refine hs_gd (fun gz2 => ?_)
        refine hs_ite (fun _ => ?_) (fun _ => ?_)
        · skip
          exact hj_X10_goThroughAll_98 L
        · skip
          refine hs_bind (hf_X10_tryAll L k10_a0) (fun r_22 u3' => ?_)
          have u3 : HG true true ad δ r_22 := u3'
          refine hs_ob (fun b_23 hb_23 => ?_)
          refine hs_bind (hf_X3_beNextSet L (c3O_10_1 L k10_a0 hb_23)) (fun r_25 u4' => ?_)
          have u4 : HG true true ad δ r_25.2 := u3.t (u4')
          refine hs_biv (fun x_26 _ => ?_)
          exact hs_mono (ih x3v x4v r_25.1 x_26 r_25.2) (fun _ hr => u4.t (hr))
theorem hj_X10_goThroughAll_38 {ad : List Nat} {h : hp} (L : Lay TLx ad h) {N : Nat} {a0 : Nat} {x1 : Int32} {x2 : Int32} {xs0 : Int32} {x3v : Int32} {x4v : Int32} (k10_a0 : q_K h.1 a0 = 10) {δ : dp} : hs (J_X10_goThroughAll_38 N h.1 a0 x1 x2 xs0 x3v x4v δ) (fun r => HG true true ad δ r) := by
  unfold J_X10_goThroughAll_38
  refine hs_ob (fun b_12 hb_12 => ?_)
  refine hs_bind (hf_X3_beFirstSet L (c3O_10_1 L k10_a0 hb_12)) (fun r_14 u1' => ?_)
  have u1 : HG true true ad δ r_14 := u1'
  exact hs_mono (hl_X10_goThroughAll_51 L k10_a0 N x3v x4v xs0 0 r_14) (fun _ hr => u1.t (hr))
theorem hf_X10_goThroughAll {ad : List Nat} {h : hp} (L : Lay TLx ad h) {N : Nat} {a0 : Nat} {x1 : Int32} {x2 : Int32} (k10_a0 : q_K h.1 a0 = 10) {δ : dp} : hs (D_X10_goThroughAll N h.1 a0 x1 x2 δ) (fun r => HG true true ad δ r) := by
  unfold D_X10_goThroughAll
  refine hs_ob (fun b_1 hb_1 => ?_)
  refine hs_bind (hf_X5_greatest L) (fun r_3 u1' => ?_)
  have u1 : HG true true ad δ r_3.2 := u1'
  refine hs_biv (fun x_4 _ => ?_)
  refine hs_ob (fun b_6 hb_6 => ?_)
  refine hs_ob (fun b_8 hb_8 => ?_)
  refine hs_bind (hf_X5_mostTouches L) (fun r_10 u2' => ?_)
  have u2 : HG true true ad δ r_10.2 := u1.t (u2')
  refine hs_ite (fun _ => ?_) (fun _ => ?_)
  · skip
    exact hs_mono (hj_X10_goThroughAll_38 L k10_a0) (fun _ hr => u2.t (hr))
  · skip
    exact hs_mono (hj_X10_goThroughAll_38 L k10_a0) (fun _ hr => u2.t (hr))
theorem hj_X10_learn_89 {ad : List Nat} {h : hp} (L : Lay TLx ad h) {N : Nat} {a0 : Nat} {x1 : Int32} {x2 : Int32} {kt7 : Int32 → dp → Option (dp)} {ys0 : Int64} {xs1 : Int32} {as2 : Nat} {x3v : Int32} (k10_a0 : q_K h.1 a0 = 10) (h_kt7 : ∀ (y0 : Int32) (δ1 : dp), hs (kt7 y0 δ1) (fun r => HG true true ad δ1 r)) {δ : dp} : hs (J_X10_learn_89 N h.1 a0 x1 x2 kt7 ys0 xs1 as2 x3v δ) (fun r => HG true true ad δ r) := by
  unfold J_X10_learn_89
  refine hs_gd (fun gz1 => ?_)
  refine hs_bdv (fun δ_37 e2 => ?_)
  have u2 : HG true true ad δ δ_37 := HG.J HG_r e2
  refine hs_bind (hf_X10_goThroughAll L k10_a0) (fun r_39 u3' => ?_)
  have u3 : HG true true ad δ r_39 := u2.t (u3')
  refine hs_ob (fun b_40 hb_40 => ?_)
  refine hs_gd (fun gz4 => ?_)
  refine hs_bdv (fun δ_42 e5 => ?_)
  have u5 : HG true true ad δ δ_42 := HG.R u3 e5 (nrO_10_3 L k10_a0 hb_40)
  refine hs_biv (fun x_44 _ => ?_)
  exact hs_mono (h_kt7 x_44 δ_42) (fun _ hr => u5.t (hr))
theorem hj_X10_learn_63 {ad : List Nat} {h : hp} (L : Lay TLx ad h) {N : Nat} {a0 : Nat} {x1 : Int32} {x2 : Int32} {kt7 : Int32 → dp → Option (dp)} {xs0 : Int32} {xs1 : Int32} {as2 : Nat} {x3v : Int32} (k10_a0 : q_K h.1 a0 = 10) (nr_as2 : nr ad as2) (h_kt7 : ∀ (y0 : Int32) (δ1 : dp), hs (kt7 y0 δ1) (fun r => HG true true ad δ1 r)) {δ : dp} : hs (J_X10_learn_63 N h.1 a0 x1 x2 kt7 xs0 xs1 as2 x3v δ) (fun r => HG true true ad δ r) := by
  unfold J_X10_learn_63
  refine hs_gd (fun gz1 => ?_)
  refine hs_bdv (fun δ_26 e2 => ?_)
  have u2 : HG true true ad δ δ_26 := HG.R HG_r e2 nr_as2
  refine hs_ob (fun b_28 hb_28 => ?_)
  refine hs_gd (fun gz3 => ?_)
  refine hs_ob (fun b_30 hb_30 => ?_)
  refine hs_ite (fun _ => ?_) (fun _ => ?_)
  · skip
    exact hs_mono (hj_X10_learn_89 L k10_a0 h_kt7) (fun _ hr => u2.t (hr))
  · skip
    refine hs_ob (fun b_33 hb_33 => ?_)
    refine hs_gd (fun gz4 => ?_)
    refine hs_ob (fun b_35 hb_35 => ?_)
    refine hs_gd (fun gz5 => ?_)
    exact hs_mono (hj_X10_learn_89 L k10_a0 h_kt7) (fun _ hr => u2.t (hr))
theorem hj_X10_learn_37 {ad : List Nat} {h : hp} (L : Lay TLx ad h) {N : Nat} {a0 : Nat} {x1 : Int32} {x2 : Int32} {kt7 : Int32 → dp → Option (dp)} {xs0 : Int32} {xs1 : Int32} {as2 : Nat} {x3v : Int32} (k10_a0 : q_K h.1 a0 = 10) (nr_as2 : nr ad as2) (h_kt7 : ∀ (y0 : Int32) (δ1 : dp), hs (kt7 y0 δ1) (fun r => HG true true ad δ1 r)) {δ : dp} : hs (J_X10_learn_37 N h.1 a0 x1 x2 kt7 xs0 xs1 as2 x3v δ) (fun r => HG true true ad δ r) := by
  unfold J_X10_learn_37
  refine hs_gd (fun gz1 => ?_)
  refine hs_bdv (fun δ_15 e2 => ?_)
  have u2 : HG true true ad δ δ_15 := HG.R HG_r e2 nr_as2
  refine hs_ob (fun b_17 hb_17 => ?_)
  refine hs_gd (fun gz3 => ?_)
  refine hs_ob (fun b_19 hb_19 => ?_)
  refine hs_ite (fun _ => ?_) (fun _ => ?_)
  · skip
    exact hs_mono (hj_X10_learn_63 L k10_a0 (nrE_10_5 L k10_a0 hb_17 (Nat.lt_of_not_le (fun z => gz3 (Or.inr z))) hb_19) h_kt7) (fun _ hr => u2.t (hr))
  · skip
    refine hs_ob (fun b_22 hb_22 => ?_)
    refine hs_gd (fun gz4 => ?_)
    refine hs_ob (fun b_24 hb_24 => ?_)
    refine hs_gd (fun gz5 => ?_)
    exact hs_mono (hj_X10_learn_63 L k10_a0 (nrE_10_5 L k10_a0 hb_17 (Nat.lt_of_not_le (fun z => gz3 (Or.inr z))) hb_19) h_kt7) (fun _ hr => u2.t (hr))
theorem hl_X10_learn_7 {ad : List Nat} {h : hp} (L : Lay TLx ad h) {N : Nat} {a0 : Nat} {x1 : Int32} {x2 : Int32} (k10_a0 : q_K h.1 a0 = 10) : ∀ (n : Nat) (x3v : Int32) (δ : dp), hs (L_X10_learn_7 N h.1 a0 x1 x2 n x3v δ) (fun r => HG true true ad δ r) := by
  intro n
  induction n with
  | zero => intro x3v δ; unfold L_X10_learn_7; exact hs_none
  | succ n ih =>
    intro x3v δ
    unfold L_X10_learn_7
    refine hs_ite (fun _ => ?_) (fun _ => ?_)
    · skip
      exact hs_some HG_r
    · skip
      refine hs_ob (fun b_6 hb_6 => ?_)
      refine hs_gd (fun gz1 => ?_)
      refine hs_ob (fun b_8 hb_8 => ?_)
      refine hs_ite (fun _ => ?_) (fun _ => ?_)
      · skip
        exact hj_X10_learn_37 L k10_a0 (nrE_10_4 L k10_a0 hb_6 (Nat.lt_of_not_le (fun z => gz1 (Or.inr z))) hb_8) ih
      · skip
        refine hs_ob (fun b_11 hb_11 => ?_)
        refine hs_gd (fun gz2 => ?_)
        refine hs_ob (fun b_13 hb_13 => ?_)
        refine hs_gd (fun gz3 => ?_)
        exact hj_X10_learn_37 L k10_a0 (nrE_10_4 L k10_a0 hb_6 (Nat.lt_of_not_le (fun z => gz1 (Or.inr z))) hb_8) ih
theorem hf_X10_learn {ad : List Nat} {h : hp} (L : Lay TLx ad h) {N : Nat} {a0 : Nat} {x1 : Int32} {x2 : Int32} (k10_a0 : q_K h.1 a0 = 10) {δ : dp} : hs (D_X10_learn N h.1 a0 x1 x2 δ) (fun r => HG true true ad δ r) := by
  unfold D_X10_learn
  refine hs_ob (fun b_1 hb_1 => ?_)
  refine hs_gd (fun gz1 => ?_)
  refine hs_biv (fun x_3 _ => ?_)
  exact hl_X10_learn_7 L k10_a0 N x_3 δ
theorem hj_X11_worst_85 {ad : List Nat} {h : hp} (L : Lay TLx ad h) {N : Nat} {a0 : Nat} {x1 : Int32} {x2 : Int32} {x3 : Int32} {xs0 : Int32}  {δ : dp} : hs (J_X11_worst_85 N h.1 a0 x1 x2 x3 xs0 δ) (fun r => HG true true ad δ r.2) := by
  unfold J_X11_worst_85
  exact hs_some HG_r
theorem hj_X11_worst_24 {ad : List Nat} {h : hp} (L : Lay TLx ad h) {N : Nat} {a0 : Nat} {x1 : Int32} {x2 : Int32} {x3 : Int32} {xs0 : Int32} {as1 : Nat} (k11_a0 : q_K h.1 a0 = 11) (k11_as1 : q_K h.1 as1 = 11) {δ : dp} : hs (J_X11_worst_24 N h.1 a0 x1 x2 x3 xs0 as1 δ) (fun r => HG true false ad δ r.2) := by
  unfold J_X11_worst_24
  refine hs_bxv (hf_X11_need L k11_as1) (fun _ _ u1' => u1') (fun δ_5 u1' => ?_)
  have u1 : HG true false ad δ δ_5 := u1'
  refine hs_ob (fun b_6 hb_6 => ?_)
  refine hs_bind (hf_X10_learn L (kO_11_9 L k11_a0 hb_6)) (fun r_8 u2' => ?_)
  have u2 : HG true false ad δ r_8 := u1.t ((u2').w (by decide) (by decide))
  refine hs_ite (fun _ => ?_) (fun _ => ?_)
  · skip
    refine hs_ob (fun b_24 hb_24 => ?_)
    refine hs_ob (fun b_26 hb_26 => ?_)
    refine hs_gd (fun gz3 => ?_)
    refine hs_ob (fun b_28 hb_28 => ?_)
    refine hs_gd (fun gz4 => ?_)
    exact hs_some u2
  · skip
    refine hs_ite (fun _ => ?_) (fun _ => ?_)
    · skip
      refine hs_ob (fun b_17 hb_17 => ?_)
      refine hs_ob (fun b_19 hb_19 => ?_)
      refine hs_gd (fun gz5 => ?_)
      refine hs_ob (fun b_21 hb_21 => ?_)
      refine hs_gd (fun gz6 => ?_)
      refine hs_bind (hf_J13_bitCount_95d88 L) (fun r_23 u7' => ?_)
      have u7 : HG true false ad δ r_23.2 := u2.t ((u7').w (by decide) (by decide))
      exact hs_mono (hj_X11_worst_85 L) (fun _ hr => u7.t ((hr).w (by decide) (by decide)))
    · skip
      refine hs_ob (fun b_11 hb_11 => ?_)
      refine hs_ob (fun b_13 hb_13 => ?_)
      refine hs_gd (fun gz8 => ?_)
      refine hs_ob (fun b_15 hb_15 => ?_)
      refine hs_gd (fun gz9 => ?_)
      exact hs_mono (hj_X11_worst_85 L) (fun _ hr => u2.t ((hr).w (by decide) (by decide)))
theorem hj_X11_worst_23 {ad : List Nat} {h : hp} (L : Lay TLx ad h) {N : Nat} {a0 : Nat} {x1 : Int32} {x2 : Int32} {x3 : Int32} {as0 : Nat} (k11_a0 : q_K h.1 a0 = 11) (k11_as0 : q_K h.1 as0 = 11) {δ : dp} : hs (J_X11_worst_23 N h.1 a0 x1 x2 x3 as0 δ) (fun r => HG true false ad δ r.2) := by
  unfold J_X11_worst_23
  exact hj_X11_worst_24 L k11_a0 k11_as0
theorem hf_X11_worst {ad : List Nat} {h : hp} (L : Lay TLx ad h) {N : Nat} {a0 : Nat} {x1 : Int32} {x2 : Int32} {x3 : Int32} (k11_a0 : q_K h.1 a0 = 11) {δ : dp} : hs (D_X11_worst N h.1 a0 x1 x2 x3 δ) (fun r => HG true false ad δ r.2) := by
  unfold D_X11_worst
  refine hs_bind (hf_X11_mayGoThroughAll L) (fun r_1 u1' => ?_)
  have u1 : HG true false ad δ r_1.2 := (u1').w (by decide) (by decide)
  refine hs_ite (fun _ => ?_) (fun _ => ?_)
  · skip
    exact hs_mono (hj_X11_worst_23 L k11_a0 k11_a0) (fun _ hr => u1.t (hr))
  · skip
    refine hs_ite (fun _ => ?_) (fun _ => ?_)
    · skip
      exact hs_mono (hj_X11_worst_23 L k11_a0 k11_a0) (fun _ hr => u1.t (hr))
    · skip
      refine hs_ite (fun _ => ?_) (fun _ => ?_)
      · skip
        exact hs_mono (hj_X11_worst_23 L k11_a0 k11_a0) (fun _ hr => u1.t (hr))
      · skip
        exact hs_mono (hj_X11_worst_24 L k11_a0 k11_a0) (fun _ hr => u1.t (hr))
theorem hj_X10_member_47 {ad : List Nat} {h : hp} (L : Lay TLx ad h) {N : Nat} {a0 : Nat} {x1 : Int32} {x2 : Int32} {x3 : Int32} {kt6 : Int32 → Int32 → dp → Option (Int32 × dp)} {x4v : Int32} {x5v : Int32} (h_kt6 : ∀ (y0 : Int32) (y1 : Int32) (δ1 : dp), hs (kt6 y0 y1 δ1) (fun r => HG true true ad δ1 r.2)) {δ : dp} : hs (J_X10_member_47 N h.1 a0 x1 x2 x3 kt6 x4v x5v δ) (fun r => HG true true ad δ r.2) := by
  unfold J_X10_member_47
  refine hs_biv (fun x_8 _ => ?_)
  exact h_kt6 x4v x_8 δ
theorem hj_X10_member_53 {ad : List Nat} {h : hp} (L : Lay TLx ad h) {N : Nat} {a0 : Nat} {x1 : Int32} {x2 : Int32} {x3 : Int32}  {δ : dp} : hs (J_X10_member_53 N h.1 a0 x1 x2 x3 δ) (fun r => HG true true ad δ r.2) := by
  unfold J_X10_member_53
  exact hs_some HG_r
theorem hl_X10_member_6 {ad : List Nat} {h : hp} (L : Lay TLx ad h) {N : Nat} {a0 : Nat} {x1 : Int32} {x2 : Int32} {x3 : Int32}  : ∀ (n : Nat) (x4v : Int32) (x5v : Int32) (δ : dp), hs (L_X10_member_6 N h.1 a0 x1 x2 x3 n x4v x5v δ) (fun r => HG true true ad δ r.2) := by
  intro n
  induction n with
  | zero => intro x4v x5v δ; unfold L_X10_member_6; exact hs_none
  | succ n ih =>
    intro x4v x5v δ
    unfold L_X10_member_6
    refine hs_ite (fun _ => ?_) (fun _ => ?_)
    · skip
      exact hj_X10_member_53 L
    · skip
      refine hs_ite (fun _ => ?_) (fun _ => ?_)
      · skip
        exact hj_X10_member_53 L
      · skip
        refine hs_ob (fun b_3 hb_3 => ?_)
        refine hs_gd (fun gz1 => ?_)
        refine hs_ob (fun b_5 hb_5 => ?_)
        refine hs_gd (fun gz2 => ?_)
        refine hs_ite (fun _ => ?_) (fun _ => ?_)
        · skip
          exact hj_X10_member_47 L ih
        · skip
          refine hs_ite (fun _ => ?_) (fun _ => ?_)
          · skip
            exact hs_some HG_r
          · skip
            refine hs_biv (fun x_11 _ => ?_)
            exact hj_X10_member_47 L ih
theorem hf_X10_member {ad : List Nat} {h : hp} (L : Lay TLx ad h) {N : Nat} {a0 : Nat} {x1 : Int32} {x2 : Int32} {x3 : Int32}  {δ : dp} : hs (D_X10_member N h.1 a0 x1 x2 x3 δ) (fun r => HG true true ad δ r.2) := by
  unfold D_X10_member
  exact hl_X10_member_6 L N x3 0 δ
theorem hf_X11_bad {ad : List Nat} {h : hp} (L : Lay TLx ad h) {N : Nat} {a0 : Nat} {x1 : Int32} {x2 : Int32} {x3 : Int32} (k11_a0 : q_K h.1 a0 = 11) {δ : dp} : hs (D_X11_bad N h.1 a0 x1 x2 x3 δ) (fun r => HG true false ad δ r.2) := by
  unfold D_X11_bad
  refine hs_bind (hf_X11_mayGoThroughAll L) (fun r_1 u1' => ?_)
  have u1 : HG true false ad δ r_1.2 := (u1').w (by decide) (by decide)
  refine hs_bxv (hf_X11_need L k11_a0) (fun _ _ u2' => u1.t (u2')) (fun δ_4 u2' => ?_)
  have u2 : HG true false ad δ δ_4 := u1.t (u2')
  refine hs_ob (fun b_5 hb_5 => ?_)
  refine hs_bind (hf_X10_learn L (kO_11_9 L k11_a0 hb_5)) (fun r_7 u3' => ?_)
  have u3 : HG true false ad δ r_7 := u2.t ((u3').w (by decide) (by decide))
  refine hs_ob (fun b_8 hb_8 => ?_)
  refine hs_bind (hf_X10_member L) (fun r_10 u4' => ?_)
  have u4 : HG true false ad δ r_10.2 := u3.t ((u4').w (by decide) (by decide))
  exact hs_some u4
theorem hf_X3_clear {ad : List Nat} {h : hp} (L : Lay TLx ad h) {N : Nat} {a0 : Nat} (c3_a0 : q_K h.1 a0 = 3 ∧ nh ad a0) {δ : dp} : hs (D_X3_clear N h.1 a0 δ) (fun r => HG true true ad δ r) := by
  unfold D_X3_clear
  refine hs_bdv (fun δ_1 e1 => ?_)
  have u1 : HG true true ad δ δ_1 := HG.M HG_r e1 c3_a0.2
  exact hs_some u1
theorem hj_X3_add_36 {ad : List Nat} {h : hp} (L : Lay TLx ad h) {N : Nat} {a0 : Nat} {x1 : Int32}  {δ : dp} : hs (J_X3_add_36 N h.1 a0 x1 δ) (fun r => HG true true ad δ r.2) := by
  unfold J_X3_add_36
  refine hs_gp (fun gk1 => ?_)
  exact hs_some HG_r
theorem hj_X3_add_24 {ad : List Nat} {h : hp} (L : Lay TLx ad h) {N : Nat} {a0 : Nat} {x1 : Int32} {x2v : Int32} (c3_a0 : q_K h.1 a0 = 3 ∧ nh ad a0) {δ : dp} : hs (J_X3_add_24 N h.1 a0 x1 x2v δ) (fun r => HG true true ad δ r.2) := by
  unfold J_X3_add_24
  refine hs_ob (fun b_3 hb_3 => ?_)
  refine hs_ite (fun _ => ?_) (fun _ => ?_)
  · skip
    refine hs_ob (fun b_6 hb_6 => ?_)
    refine hs_ob (fun b_8 hb_8 => ?_)
    refine hs_gd (fun gz1 => ?_)
    refine hs_bdv (fun δ_10 e2 => ?_)
    have u2 : HG true true ad δ δ_10 := HG.C HG_r e2 (nr3 L c3_a0 hb_8)
    refine hs_ob (fun b_12 hb_12 => ?_)
    refine hs_gd (fun gz3 => ?_)
    refine hs_bdv (fun δ_14 e4 => ?_)
    have u4 : HG true true ad δ δ_14 := HG.R u2 e4 (nr3 L c3_a0 hb_12)
    refine hs_bdv (fun δ_16 e5 => ?_)
    have u5 : HG true true ad δ δ_16 := HG.M u4 e5 c3_a0.2
    refine hs_gp (fun gk6 => ?_)
    exact hs_some u5
  · skip
    exact hj_X3_add_36 L
theorem hf_X3_add {ad : List Nat} {h : hp} (L : Lay TLx ad h) {N : Nat} {a0 : Nat} {x1 : Int32} (c3_a0 : q_K h.1 a0 = 3 ∧ nh ad a0) {δ : dp} : hs (D_X3_add N h.1 a0 x1 δ) (fun r => HG true true ad δ r.2) := by
  unfold D_X3_add
  refine hs_bind (hf_X3_firstFrom L) (fun r_1 u1' => ?_)
  have u1 : HG true true ad δ r_1.2 := u1'
  refine hs_ite (fun _ => ?_) (fun _ => ?_)
  · skip
    exact hs_mono (hj_X3_add_24 L c3_a0) (fun _ hr => u1.t (hr))
  · skip
    refine hs_ob (fun b_18 hb_18 => ?_)
    refine hs_gd (fun gz2 => ?_)
    refine hs_ite (fun _ => ?_) (fun _ => ?_)
    · skip
      exact hs_mono (hj_X3_add_36 L) (fun _ hr => u1.t (hr))
    · skip
      exact hs_mono (hj_X3_add_24 L c3_a0) (fun _ hr => u1.t (hr))
theorem hj_X3_remove_24 {ad : List Nat} {h : hp} (L : Lay TLx ad h) {N : Nat} {a0 : Nat} {x1 : Int32}  {δ : dp} : hs (J_X3_remove_24 N h.1 a0 x1 δ) (fun r => HG true true ad δ r.2) := by
  unfold J_X3_remove_24
  refine hs_gp (fun gk1 => ?_)
  exact hs_some HG_r
theorem hf_X3_remove {ad : List Nat} {h : hp} (L : Lay TLx ad h) {N : Nat} {a0 : Nat} {x1 : Int32} (c3_a0 : q_K h.1 a0 = 3 ∧ nh ad a0) {δ : dp} : hs (D_X3_remove N h.1 a0 x1 δ) (fun r => HG true true ad δ r.2) := by
  unfold D_X3_remove
  refine hs_bind (hf_X3_firstFrom L) (fun r_1 u1' => ?_)
  have u1 : HG true true ad δ r_1.2 := u1'
  refine hs_ite (fun _ => ?_) (fun _ => ?_)
  · skip
    exact hs_mono (hj_X3_remove_24 L) (fun _ hr => u1.t (hr))
  · skip
    refine hs_ob (fun b_3 hb_3 => ?_)
    refine hs_gd (fun gz2 => ?_)
    refine hs_ite (fun _ => ?_) (fun _ => ?_)
    · skip
      refine hs_bdv (fun δ_6 e3 => ?_)
      have u3 : HG true true ad δ δ_6 := HG.M u1 e3 c3_a0.2
      refine hs_ob (fun b_8 hb_8 => ?_)
      refine hs_ob (fun b_10 hb_10 => ?_)
      refine hs_gd (fun gz4 => ?_)
      refine hs_bdv (fun δ_12 e5 => ?_)
      have u5 : HG true true ad δ δ_12 := HG.C u3 e5 (nr3 L c3_a0 hb_10)
      refine hs_gp (fun gk6 => ?_)
      exact hs_some u5
    · skip
      exact hs_mono (hj_X3_remove_24 L) (fun _ hr => u1.t (hr))
theorem hj_X2_replay_53 {ad : List Nat} {h : hp} (L : Lay TLx ad h) {N : Nat} {a0 : Nat} {a1 : Nat} {x2 : Int32} {x3 : Int32}  {δ : dp} : hs (J_X2_replay_53 N h.1 a0 a1 x2 x3 δ) (fun r => HG true true ad δ r) := by
  unfold J_X2_replay_53
  exact hs_some HG_r
theorem hj_X2_replay_16 {ad : List Nat} {h : hp} (L : Lay TLx ad h) {N : Nat} {a0 : Nat} {a1 : Nat} {x2 : Int32} {x3 : Int32} {xs0 : Int32} (c3_a1 : q_K h.1 a1 = 3 ∧ nh ad a1) {δ : dp} : hs (J_X2_replay_16 N h.1 a0 a1 x2 x3 xs0 δ) (fun r => HG true true ad δ r) := by
  unfold J_X2_replay_16
  refine hs_ite (fun _ => ?_) (fun _ => ?_)
  · skip
    refine hs_ob (fun b_5 hb_5 => ?_)
    refine hs_gd (fun gz1 => ?_)
    refine hs_bind (hf_X3_remove L c3_a1) (fun r_7 u2' => ?_)
    have u2 : HG true true ad δ r_7.2 := u2'
    exact hs_mono (hj_X2_replay_53 L) (fun _ hr => u2.t (hr))
  · skip
    refine hs_ob (fun b_8 hb_8 => ?_)
    refine hs_gd (fun gz3 => ?_)
    refine hs_bind (hf_X3_add L c3_a1) (fun r_10 u4' => ?_)
    have u4 : HG true true ad δ r_10.2 := u4'
    exact hs_mono (hj_X2_replay_53 L) (fun _ hr => u4.t (hr))
theorem hf_X2_replay {ad : List Nat} {h : hp} (L : Lay TLx ad h) {N : Nat} {a0 : Nat} {a1 : Nat} {x2 : Int32} {x3 : Int32} (c3_a1 : q_K h.1 a1 = 3 ∧ nh ad a1) {δ : dp} : hs (D_X2_replay N h.1 a0 a1 x2 x3 δ) (fun r => HG true true ad δ r) := by
  unfold D_X2_replay
  refine hs_ob (fun b_1 hb_1 => ?_)
  refine hs_gd (fun gz1 => ?_)
  refine hs_ite (fun _ => ?_) (fun _ => ?_)
  · skip
    exact hj_X2_replay_16 L c3_a1
  · skip
    exact hj_X2_replay_16 L c3_a1
theorem hl_X2_fillPast_6 {ad : List Nat} {h : hp} (L : Lay TLx ad h) {N : Nat} {a0 : Nat} {a1 : Nat} {x2 : Int32} (c3_a1 : q_K h.1 a1 = 3 ∧ nh ad a1) : ∀ (n : Nat) (x3v : Int32) (δ : dp), hs (L_X2_fillPast_6 N h.1 a0 a1 x2 n x3v δ) (fun r => HG true true ad δ r) := by
  intro n
  induction n with
  | zero => intro x3v δ; unfold L_X2_fillPast_6; exact hs_none
  | succ n ih =>
    intro x3v δ
    unfold L_X2_fillPast_6
    refine hs_ite (fun _ => ?_) (fun _ => ?_)
    · skip
      exact hs_some HG_r
    · skip
      refine hs_bind (hf_X2_replay L c3_a1) (fun r_3 u1' => ?_)
      have u1 : HG true true ad δ r_3 := u1'
      refine hs_biv (fun x_4 _ => ?_)
      exact hs_mono (ih x_4 r_3) (fun _ hr => u1.t (hr))
theorem hf_X2_fillPast {ad : List Nat} {h : hp} (L : Lay TLx ad h) {N : Nat} {a0 : Nat} {a1 : Nat} {x2 : Int32} (c3_a1 : q_K h.1 a1 = 3 ∧ nh ad a1) {δ : dp} : hs (D_X2_fillPast N h.1 a0 a1 x2 δ) (fun r => HG true true ad δ r) := by
  unfold D_X2_fillPast
  refine hs_bind (hf_X3_clear L c3_a1) (fun r_1 u1' => ?_)
  have u1 : HG true true ad δ r_1 := u1'
  exact hs_mono (hl_X2_fillPast_6 L c3_a1 N 0 r_1) (fun _ hr => u1.t (hr))
theorem hj_X11_was_37 {ad : List Nat} {h : hp} (L : Lay TLx ad h) {N : Nat} {a0 : Nat} {x1 : Int32} {x2 : Int32} {x3 : Int32} {xs0 : Int32} {as1 : Nat} (k11_a0 : q_K h.1 a0 = 11) (k11_as1 : q_K h.1 as1 = 11) {δ : dp} : hs (J_X11_was_37 N h.1 a0 x1 x2 x3 xs0 as1 δ) (fun r => HG true false ad δ r.2) := by
  unfold J_X11_was_37
  refine hs_bxv (hf_X11_need L k11_as1) (fun _ _ u1' => u1') (fun δ_7 u1' => ?_)
  have u1 : HG true false ad δ δ_7 := u1'
  refine hs_ob (fun b_8 hb_8 => ?_)
  refine hs_gd (fun gz2 => ?_)
  refine hs_ob (fun b_10 hb_10 => ?_)
  refine hs_ob (fun b_12 hb_12 => ?_)
  refine hs_bind (hf_X2_fillPast L (c3O_11_7 L k11_a0 hb_12)) (fun r_14 u3' => ?_)
  have u3 : HG true false ad δ r_14 := u1.t ((u3').w (by decide) (by decide))
  refine hs_ob (fun b_15 hb_15 => ?_)
  refine hs_bind (hf_X3_tell L) (fun r_17 u4' => ?_)
  have u4 : HG true false ad δ r_17.2 := u3.t ((u4').w (by decide) (by decide))
  exact hs_some u4
theorem hj_X11_was_36 {ad : List Nat} {h : hp} (L : Lay TLx ad h) {N : Nat} {a0 : Nat} {x1 : Int32} {x2 : Int32} {x3 : Int32} {as0 : Nat} (k11_a0 : q_K h.1 a0 = 11) (k11_as0 : q_K h.1 as0 = 11) {δ : dp} : hs (J_X11_was_36 N h.1 a0 x1 x2 x3 as0 δ) (fun r => HG true false ad δ r.2) := by
  unfold J_X11_was_36
  exact hj_X11_was_37 L k11_a0 k11_as0
theorem hf_X11_was {ad : List Nat} {h : hp} (L : Lay TLx ad h) {N : Nat} {a0 : Nat} {x1 : Int32} {x2 : Int32} {x3 : Int32} (k11_a0 : q_K h.1 a0 = 11) {δ : dp} : hs (D_X11_was N h.1 a0 x1 x2 x3 δ) (fun r => HG true false ad δ r.2) := by
  unfold D_X11_was
  refine hs_bxv (hf_X11_needHouse L k11_a0) (fun _ _ u1' => u1') (fun δ_3 u1' => ?_)
  have u1 : HG true false ad δ δ_3 := u1'
  refine hs_ite (fun _ => ?_) (fun _ => ?_)
  · skip
    exact hs_mono (hj_X11_was_36 L k11_a0 k11_a0) (fun _ hr => u1.t (hr))
  · skip
    refine hs_ob (fun b_18 hb_18 => ?_)
    refine hs_gd (fun gz2 => ?_)
    refine hs_ob (fun b_20 hb_20 => ?_)
    refine hs_ite (fun _ => ?_) (fun _ => ?_)
    · skip
      exact hs_mono (hj_X11_was_36 L k11_a0 k11_a0) (fun _ hr => u1.t (hr))
    · skip
      refine hs_ite (fun _ => ?_) (fun _ => ?_)
      · skip
        exact hs_mono (hj_X11_was_36 L k11_a0 k11_a0) (fun _ hr => u1.t (hr))
      · skip
        refine hs_ite (fun _ => ?_) (fun _ => ?_)
        · skip
          exact hs_mono (hj_X11_was_36 L k11_a0 k11_a0) (fun _ hr => u1.t (hr))
        · skip
          exact hs_mono (hj_X11_was_37 L k11_a0 k11_a0) (fun _ hr => u1.t (hr))
theorem hj_X3_answer_62 {ad : List Nat} {h : hp} (L : Lay TLx ad h) {N : Nat} {a0 : Nat} {x1 : Int32} {x2 : Int32} {xs0 : Int32}  {δ : dp} : hs (J_X3_answer_62 N h.1 a0 x1 x2 xs0 δ) (fun r => HG true true ad δ r.2) := by
  unfold J_X3_answer_62
  exact hs_some HG_r
theorem hj_X3_answer_52 {ad : List Nat} {h : hp} (L : Lay TLx ad h) {N : Nat} {a0 : Nat} {x1 : Int32} {x2 : Int32} {xs0 : Int32}  {δ : dp} : hs (J_X3_answer_52 N h.1 a0 x1 x2 xs0 δ) (fun r => HG true true ad δ r.2) := by
  unfold J_X3_answer_52
  refine hs_ite (fun _ => ?_) (fun _ => ?_)
  · skip
    exact hj_X3_answer_62 L
  · skip
    exact hj_X3_answer_62 L
theorem hf_X3_answer {ad : List Nat} {h : hp} (L : Lay TLx ad h) {N : Nat} {a0 : Nat} {x1 : Int32} {x2 : Int32} (c3_a0 : q_K h.1 a0 = 3 ∧ nh ad a0) {δ : dp} : hs (D_X3_answer N h.1 a0 x1 x2 δ) (fun r => HG true true ad δ r.2) := by
  unfold D_X3_answer
  refine hs_ite (fun _ => ?_) (fun _ => ?_)
  · skip
    refine hs_bind (hf_X3_above L) (fun r_10 u1' => ?_)
    have u1 : HG true true ad δ r_10.2 := u1'
    exact hs_some u1
  · skip
    refine hs_ite (fun _ => ?_) (fun _ => ?_)
    · skip
      refine hs_bind (hf_X3_below L) (fun r_9 u2' => ?_)
      have u2 : HG true true ad δ r_9.2 := u2'
      exact hs_some u2
    · skip
      refine hs_ite (fun _ => ?_) (fun _ => ?_)
      · skip
        refine hs_bind (hf_X3_add L c3_a0) (fun r_8 u3' => ?_)
        have u3 : HG true true ad δ r_8.2 := u3'
        exact hs_mono (hj_X3_answer_52 L) (fun _ hr => u3.t (hr))
      · skip
        refine hs_ite (fun _ => ?_) (fun _ => ?_)
        · skip
          refine hs_bind (hf_X3_remove L c3_a0) (fun r_7 u4' => ?_)
          have u4 : HG true true ad δ r_7.2 := u4'
          exact hs_mono (hj_X3_answer_52 L) (fun _ hr => u4.t (hr))
        · skip
          refine hs_bind (hf_X3_holds L) (fun r_5 u5' => ?_)
          have u5 : HG true true ad δ r_5.2 := u5'
          exact hs_mono (hj_X3_answer_52 L) (fun _ hr => u5.t (hr))
theorem hj_X11_asked_50 {ad : List Nat} {h : hp} (L : Lay TLx ad h) {N : Nat} {a0 : Nat} {x1 : Int32} {x2 : Int32} {x3 : Int32} {x4 : Int32} {xs0 : Int32} {as1 : Nat} (k11_a0 : q_K h.1 a0 = 11) (k11_as1 : q_K h.1 as1 = 11) {δ : dp} : hs (J_X11_asked_50 N h.1 a0 x1 x2 x3 x4 xs0 as1 δ) (fun r => HG true false ad δ r.2) := by
  unfold J_X11_asked_50
  refine hs_bxv (hf_X11_need L k11_as1) (fun _ _ u1' => u1') (fun δ_7 u1' => ?_)
  have u1 : HG true false ad δ δ_7 := u1'
  refine hs_ob (fun b_8 hb_8 => ?_)
  refine hs_gd (fun gz2 => ?_)
  refine hs_ob (fun b_10 hb_10 => ?_)
  refine hs_ob (fun b_12 hb_12 => ?_)
  refine hs_bind (hf_X2_fillPast L (c3O_11_7 L k11_a0 hb_12)) (fun r_14 u3' => ?_)
  have u3 : HG true false ad δ r_14 := u1.t ((u3').w (by decide) (by decide))
  refine hs_ob (fun b_15 hb_15 => ?_)
  refine hs_bind (hf_X3_answer L (c3O_11_7 L k11_a0 hb_15)) (fun r_17 u4' => ?_)
  have u4 : HG true false ad δ r_17.2 := u3.t ((u4').w (by decide) (by decide))
  exact hs_some u4
theorem hj_X11_asked_49 {ad : List Nat} {h : hp} (L : Lay TLx ad h) {N : Nat} {a0 : Nat} {x1 : Int32} {x2 : Int32} {x3 : Int32} {x4 : Int32} {as0 : Nat} (k11_a0 : q_K h.1 a0 = 11) (k11_as0 : q_K h.1 as0 = 11) {δ : dp} : hs (J_X11_asked_49 N h.1 a0 x1 x2 x3 x4 as0 δ) (fun r => HG true false ad δ r.2) := by
  unfold J_X11_asked_49
  exact hj_X11_asked_50 L k11_a0 k11_as0
theorem hf_X11_asked {ad : List Nat} {h : hp} (L : Lay TLx ad h) {N : Nat} {a0 : Nat} {x1 : Int32} {x2 : Int32} {x3 : Int32} {x4 : Int32} (k11_a0 : q_K h.1 a0 = 11) {δ : dp} : hs (D_X11_asked N h.1 a0 x1 x2 x3 x4 δ) (fun r => HG true false ad δ r.2) := by
  unfold D_X11_asked
  refine hs_bxv (hf_X11_needHouse L k11_a0) (fun _ _ u1' => u1') (fun δ_3 u1' => ?_)
  have u1 : HG true false ad δ δ_3 := u1'
  refine hs_ite (fun _ => ?_) (fun _ => ?_)
  · skip
    exact hs_mono (hj_X11_asked_49 L k11_a0 k11_a0) (fun _ hr => u1.t (hr))
  · skip
    refine hs_ob (fun b_18 hb_18 => ?_)
    refine hs_gd (fun gz2 => ?_)
    refine hs_ob (fun b_20 hb_20 => ?_)
    refine hs_ite (fun _ => ?_) (fun _ => ?_)
    · skip
      exact hs_mono (hj_X11_asked_49 L k11_a0 k11_a0) (fun _ hr => u1.t (hr))
    · skip
      refine hs_bind (hf_X11_isCall L) (fun r_23 u3' => ?_)
      have u3 : HG true false ad δ r_23.2 := u1.t ((u3').w (by decide) (by decide))
      refine hs_ite (fun _ => ?_) (fun _ => ?_)
      · skip
        exact hs_mono (hj_X11_asked_49 L k11_a0 k11_a0) (fun _ hr => u3.t (hr))
      · skip
        refine hs_ite (fun _ => ?_) (fun _ => ?_)
        · skip
          exact hs_mono (hj_X11_asked_49 L k11_a0 k11_a0) (fun _ hr => u3.t (hr))
        · skip
          refine hs_bind (hf_X11_mayAsk L) (fun r_26 u4' => ?_)
          have u4 : HG true false ad δ r_26.2 := u3.t ((u4').w (by decide) (by decide))
          refine hs_ite (fun _ => ?_) (fun _ => ?_)
          · skip
            exact hs_mono (hj_X11_asked_49 L k11_a0 k11_a0) (fun _ hr => u4.t (hr))
          · skip
            exact hs_mono (hj_X11_asked_50 L k11_a0 k11_a0) (fun _ hr => u4.t (hr))
theorem hl_X2_lastChange_7 {ad : List Nat} {h : hp} (L : Lay TLx ad h) {N : Nat} {a0 : Nat} {x1 : Int32} {x2 : Int32}  : ∀ (n : Nat) (x3v : Int32) (δ : dp), hs (L_X2_lastChange_7 N h.1 a0 x1 x2 n x3v δ) (fun r => HG true true ad δ r.2) := by
  intro n
  induction n with
  | zero => intro x3v δ; unfold L_X2_lastChange_7; exact hs_none
  | succ n ih =>
    intro x3v δ
    unfold L_X2_lastChange_7
    refine hs_ite (fun _ => ?_) (fun _ => ?_)
    · skip
      exact hs_some HG_r
    · skip
      refine hs_ob (fun b_4 hb_4 => ?_)
      refine hs_gd (fun gz1 => ?_)
      refine hs_ite (fun _ => ?_) (fun _ => ?_)
      · skip
        exact hs_some HG_r
      · skip
        refine hs_biv (fun x_7 _ => ?_)
        exact ih x_7 δ
theorem hf_X2_lastChange {ad : List Nat} {h : hp} (L : Lay TLx ad h) {N : Nat} {a0 : Nat} {x1 : Int32} {x2 : Int32}  {δ : dp} : hs (D_X2_lastChange N h.1 a0 x1 x2 δ) (fun r => HG true true ad δ r.2) := by
  unfold D_X2_lastChange
  refine hs_biv (fun x_1 _ => ?_)
  exact hl_X2_lastChange_7 L N x_1 δ
theorem hj_X11_since_46 {ad : List Nat} {h : hp} (L : Lay TLx ad h) {N : Nat} {a0 : Nat} {x1 : Int32} {x2 : Int32} {x3 : Int32} {xs0 : Int32} {as1 : Nat}  {δ : dp} : hs (J_X11_since_46 N h.1 a0 x1 x2 x3 xs0 as1 δ) (fun r => HG true true ad δ r.2) := by
  unfold J_X11_since_46
  refine hs_bind (hf_X2_lastChange L) (fun r_14 u1' => ?_)
  have u1 : HG true true ad δ r_14.2 := u1'
  exact hs_some u1
theorem hj_X11_since_28 {ad : List Nat} {h : hp} (L : Lay TLx ad h) {N : Nat} {a0 : Nat} {x1 : Int32} {x2 : Int32} {x3 : Int32} {xs0 : Int32} {as1 : Nat} (k11_as1 : q_K h.1 as1 = 11) {δ : dp} : hs (J_X11_since_28 N h.1 a0 x1 x2 x3 xs0 as1 δ) (fun r => HG true false ad δ r.2) := by
  unfold J_X11_since_28
  refine hs_bxv (hf_X11_need L k11_as1) (fun _ _ u1' => u1') (fun δ_8 u1' => ?_)
  have u1 : HG true false ad δ δ_8 := u1'
  refine hs_ob (fun b_9 hb_9 => ?_)
  refine hs_gd (fun gz2 => ?_)
  refine hs_ob (fun b_11 hb_11 => ?_)
  refine hs_ite (fun _ => ?_) (fun _ => ?_)
  · skip
    exact hs_mono (hj_X11_since_46 L) (fun _ hr => u1.t ((hr).w (by decide) (by decide)))
  · skip
    exact hs_mono (hj_X11_since_46 L) (fun _ hr => u1.t ((hr).w (by decide) (by decide)))
theorem hj_X11_since_23 {ad : List Nat} {h : hp} (L : Lay TLx ad h) {N : Nat} {a0 : Nat} {x1 : Int32} {x2 : Int32} {x3 : Int32} {as0 : Nat} (k11_as0 : q_K h.1 as0 = 11) {δ : dp} : hs (J_X11_since_23 N h.1 a0 x1 x2 x3 as0 δ) (fun r => HG true false ad δ r.2) := by
  unfold J_X11_since_23
  exact hj_X11_since_28 L k11_as0
theorem hj_X11_since_27 {ad : List Nat} {h : hp} (L : Lay TLx ad h) {N : Nat} {a0 : Nat} {x1 : Int32} {x2 : Int32} {x3 : Int32} {as0 : Nat} (k11_as0 : q_K h.1 as0 = 11) {δ : dp} : hs (J_X11_since_27 N h.1 a0 x1 x2 x3 as0 δ) (fun r => HG true false ad δ r.2) := by
  unfold J_X11_since_27
  exact hj_X11_since_28 L k11_as0
theorem hf_X11_since {ad : List Nat} {h : hp} (L : Lay TLx ad h) {N : Nat} {a0 : Nat} {x1 : Int32} {x2 : Int32} {x3 : Int32} (k11_a0 : q_K h.1 a0 = 11) {δ : dp} : hs (D_X11_since N h.1 a0 x1 x2 x3 δ) (fun r => HG true false ad δ r.2) := by
  unfold D_X11_since
  refine hs_bxv (hf_X11_needHouse L k11_a0) (fun _ _ u1' => u1') (fun δ_3 u1' => ?_)
  have u1 : HG true false ad δ δ_3 := u1'
  refine hs_bind (hf_X11_isNumber L) (fun r_4 u2' => ?_)
  have u2 : HG true false ad δ r_4.2 := u1.t ((u2').w (by decide) (by decide))
  refine hs_ite (fun _ => ?_) (fun _ => ?_)
  · skip
    exact hs_mono (hj_X11_since_27 L k11_a0) (fun _ hr => u2.t (hr))
  · skip
    refine hs_ite (fun _ => ?_) (fun _ => ?_)
    · skip
      exact hs_mono (hj_X11_since_23 L k11_a0) (fun _ hr => u2.t (hr))
    · skip
      refine hs_ite (fun _ => ?_) (fun _ => ?_)
      · skip
        exact hs_mono (hj_X11_since_23 L k11_a0) (fun _ hr => u2.t (hr))
      · skip
        exact hs_mono (hj_X11_since_27 L k11_a0) (fun _ hr => u2.t (hr))
theorem hl_X2_copying_4 {ad : List Nat} {h : hp} (L : Lay TLx ad h) {N : Nat} {a0 : Nat}  : ∀ (n : Nat) (x1v : Int32) (x2v : Int32) (δ : dp), hs (L_X2_copying_4 N h.1 a0 n x1v x2v δ) (fun r => HG true true ad δ r.2) := by
  intro n
  induction n with
  | zero => intro x1v x2v δ; unfold L_X2_copying_4; exact hs_none
  | succ n ih =>
    intro x1v x2v δ
    unfold L_X2_copying_4
    refine hs_ite (fun _ => ?_) (fun _ => ?_)
    · skip
      exact hs_some HG_r
    · skip
      refine hs_ob (fun b_2 hb_2 => ?_)
      refine hs_gd (fun gz1 => ?_)
      refine hs_biv (fun x_4 _ => ?_)
      refine hs_biv (fun x_6 _ => ?_)
      exact ih x_4 x_6 δ
theorem hf_X2_copying {ad : List Nat} {h : hp} (L : Lay TLx ad h) {N : Nat} {a0 : Nat}  {δ : dp} : hs (D_X2_copying N h.1 a0 δ) (fun r => HG true true ad δ r.2) := by
  unfold D_X2_copying
  exact hl_X2_copying_4 L N 0 0 δ
theorem hj_X11_room_48 {ad : List Nat} {h : hp} (L : Lay TLx ad h) {N : Nat} {a0 : Nat} {x1 : Int32} {x2 : Int32} {xs0 : Int32}  {δ : dp} : hs (J_X11_room_48 N h.1 a0 x1 x2 xs0 δ) (fun r => HG true true ad δ r.2) := by
  unfold J_X11_room_48
  exact hs_some HG_r
theorem hj_X11_room_20 {ad : List Nat} {h : hp} (L : Lay TLx ad h) {N : Nat} {a0 : Nat} {x1 : Int32} {x2 : Int32} {xs0 : Int32} {as1 : Nat} (k11_as1 : q_K h.1 as1 = 11) {δ : dp} : hs (J_X11_room_20 N h.1 a0 x1 x2 xs0 as1 δ) (fun r => HG true false ad δ r.2) := by
  unfold J_X11_room_20
  refine hs_bxv (hf_X11_need L k11_as1) (fun _ _ u1' => u1') (fun δ_7 u1' => ?_)
  have u1 : HG true false ad δ δ_7 := u1'
  refine hs_ite (fun _ => ?_) (fun _ => ?_)
  · skip
    refine hs_ob (fun b_13 hb_13 => ?_)
    refine hs_gd (fun gz2 => ?_)
    refine hs_ob (fun b_15 hb_15 => ?_)
    refine hs_bind (hf_X2_copying L) (fun r_17 u3' => ?_)
    have u3 : HG true false ad δ r_17.2 := u1.t ((u3').w (by decide) (by decide))
    exact hs_mono (hj_X11_room_48 L) (fun _ hr => u3.t ((hr).w (by decide) (by decide)))
  · skip
    refine hs_ob (fun b_9 hb_9 => ?_)
    refine hs_gd (fun gz4 => ?_)
    refine hs_ob (fun b_11 hb_11 => ?_)
    exact hs_mono (hj_X11_room_48 L) (fun _ hr => u1.t ((hr).w (by decide) (by decide)))
theorem hj_X11_room_15 {ad : List Nat} {h : hp} (L : Lay TLx ad h) {N : Nat} {a0 : Nat} {x1 : Int32} {x2 : Int32} {as0 : Nat} (k11_as0 : q_K h.1 as0 = 11) {δ : dp} : hs (J_X11_room_15 N h.1 a0 x1 x2 as0 δ) (fun r => HG true false ad δ r.2) := by
  unfold J_X11_room_15
  exact hj_X11_room_20 L k11_as0
theorem hf_X11_room {ad : List Nat} {h : hp} (L : Lay TLx ad h) {N : Nat} {a0 : Nat} {x1 : Int32} {x2 : Int32} (k11_a0 : q_K h.1 a0 = 11) {δ : dp} : hs (D_X11_room N h.1 a0 x1 x2 δ) (fun r => HG true false ad δ r.2) := by
  unfold D_X11_room
  refine hs_bxv (hf_X11_needHouse L k11_a0) (fun _ _ u1' => u1') (fun δ_3 u1' => ?_)
  have u1 : HG true false ad δ δ_3 := u1'
  refine hs_ite (fun _ => ?_) (fun _ => ?_)
  · skip
    exact hs_mono (hj_X11_room_15 L k11_a0) (fun _ hr => u1.t (hr))
  · skip
    refine hs_ite (fun _ => ?_) (fun _ => ?_)
    · skip
      exact hs_mono (hj_X11_room_15 L k11_a0) (fun _ hr => u1.t (hr))
    · skip
      exact hs_mono (hj_X11_room_20 L k11_a0) (fun _ hr => u1.t (hr))
theorem hj_J6_compare_7cf53_19 {ad : List Nat} {h : hp} (L : Lay TLx ad h) {N : Nat} {x0 : Int32} {x1 : Int32} {xs0 : Int32}  {δ : dp} : hs (J_J6_compare_7cf53_19 N h.1 x0 x1 xs0 δ) (fun r => HG true true ad δ r.2) := by
  unfold J_J6_compare_7cf53_19
  exact hs_some HG_r
theorem hf_J6_compare_7cf53 {ad : List Nat} {h : hp} (L : Lay TLx ad h) {N : Nat} {x0 : Int32} {x1 : Int32}  {δ : dp} : hs (D_J6_compare_7cf53 N h.1 x0 x1 δ) (fun r => HG true true ad δ r.2) := by
  unfold D_J6_compare_7cf53
  refine hs_ite (fun _ => ?_) (fun _ => ?_)
  · skip
    refine hs_ite (fun _ => ?_) (fun _ => ?_)
    · skip
      exact hj_J6_compare_7cf53_19 L
    · skip
      exact hj_J6_compare_7cf53_19 L
  · skip
    exact hj_J6_compare_7cf53_19 L
theorem hj_X3_runsWith_106 {ad : List Nat} {h : hp} (L : Lay TLx ad h) {N : Nat} {a0 : Nat} {a1 : Nat} {kt10 : Int32 → Int32 → Int32 → Int32 → dp → Option (Int32 × dp)} {x2v : Int32} {x3v : Int32} {x4v : Int32} {x5v : Int32} (h_kt10 : ∀ (y0 : Int32) (y1 : Int32) (y2 : Int32) (y3 : Int32) (δ1 : dp), hs (kt10 y0 y1 y2 y3 δ1) (fun r => HG true true ad δ1 r.2)) {δ : dp} : hs (J_X3_runsWith_106 N h.1 a0 a1 kt10 x2v x3v x4v x5v δ) (fun r => HG true true ad δ r.2) := by
  unfold J_X3_runsWith_106
  exact h_kt10 x2v x3v x4v x5v δ
theorem hj_X3_runsWith_98 {ad : List Nat} {h : hp} (L : Lay TLx ad h) {N : Nat} {a0 : Nat} {a1 : Nat} {kt10 : Int32 → Int32 → Int32 → Int32 → dp → Option (Int32 × dp)} {x2v : Int32} {x3v : Int32} {x4v : Int32} {x5v : Int32} {x6v : Int32} (h_kt10 : ∀ (y0 : Int32) (y1 : Int32) (y2 : Int32) (y3 : Int32) (δ1 : dp), hs (kt10 y0 y1 y2 y3 δ1) (fun r => HG true true ad δ1 r.2)) {δ : dp} : hs (J_X3_runsWith_98 N h.1 a0 a1 kt10 x2v x3v x4v x5v x6v δ) (fun r => HG true true ad δ r.2) := by
  unfold J_X3_runsWith_98
  refine hs_ite (fun _ => ?_) (fun _ => ?_)
  · skip
    exact hj_X3_runsWith_106 L h_kt10
  · skip
    refine hs_biv (fun x_12 _ => ?_)
    exact hj_X3_runsWith_106 L h_kt10
theorem hj_X3_runsWith_90 {ad : List Nat} {h : hp} (L : Lay TLx ad h) {N : Nat} {a0 : Nat} {a1 : Nat} {kt10 : Int32 → Int32 → Int32 → Int32 → dp → Option (Int32 × dp)} {x2v : Int32} {x3v : Int32} {x4v : Int32} {x5v : Int32} {x6v : Int32} (h_kt10 : ∀ (y0 : Int32) (y1 : Int32) (y2 : Int32) (y3 : Int32) (δ1 : dp), hs (kt10 y0 y1 y2 y3 δ1) (fun r => HG true true ad δ1 r.2)) {δ : dp} : hs (J_X3_runsWith_90 N h.1 a0 a1 kt10 x2v x3v x4v x5v x6v δ) (fun r => HG true true ad δ r.2) := by
  unfold J_X3_runsWith_90
  refine hs_ite (fun _ => ?_) (fun _ => ?_)
  · skip
    exact hj_X3_runsWith_98 L h_kt10
  · skip
    refine hs_biv (fun x_14 _ => ?_)
    exact hj_X3_runsWith_98 L h_kt10
theorem hj_X3_runsWith_71 {ad : List Nat} {h : hp} (L : Lay TLx ad h) {N : Nat} {a0 : Nat} {a1 : Nat} {kt10 : Int32 → Int32 → Int32 → Int32 → dp → Option (Int32 × dp)} {xs0 : Int32} {x2v : Int32} {x3v : Int32} {x4v : Int32} {x5v : Int32} (h_kt10 : ∀ (y0 : Int32) (y1 : Int32) (y2 : Int32) (y3 : Int32) (δ1 : dp), hs (kt10 y0 y1 y2 y3 δ1) (fun r => HG true true ad δ1 r.2)) {δ : dp} : hs (J_X3_runsWith_71 N h.1 a0 a1 kt10 xs0 x2v x3v x4v x5v δ) (fun r => HG true true ad δ r.2) := by
  unfold J_X3_runsWith_71
  refine hs_ite (fun _ => ?_) (fun _ => ?_)
  · skip
    exact hj_X3_runsWith_90 L h_kt10
  · skip
    refine hs_ite (fun _ => ?_) (fun _ => ?_)
    · skip
      exact hj_X3_runsWith_90 L h_kt10
    · skip
      refine hs_biv (fun x_17 _ => ?_)
      exact hj_X3_runsWith_90 L h_kt10
theorem hj_X3_runsWith_28 {ad : List Nat} {h : hp} (L : Lay TLx ad h) {N : Nat} {a0 : Nat} {a1 : Nat} {kt10 : Int32 → Int32 → Int32 → Int32 → dp → Option (Int32 × dp)} {x2v : Int32} {x3v : Int32} {x4v : Int32} {x5v : Int32} (h_kt10 : ∀ (y0 : Int32) (y1 : Int32) (y2 : Int32) (y3 : Int32) (δ1 : dp), hs (kt10 y0 y1 y2 y3 δ1) (fun r => HG true true ad δ1 r.2)) {δ : dp} : hs (J_X3_runsWith_28 N h.1 a0 a1 kt10 x2v x3v x4v x5v δ) (fun r => HG true true ad δ r.2) := by
  unfold J_X3_runsWith_28
  refine hs_ite (fun _ => ?_) (fun _ => ?_)
  · skip
    refine hs_ite (fun _ => ?_) (fun _ => ?_)
    · skip
      refine hs_ob (fun b_4 hb_4 => ?_)
      refine hs_gd (fun gz1 => ?_)
      refine hs_ob (fun b_6 hb_6 => ?_)
      refine hs_gd (fun gz2 => ?_)
      refine hs_bind (hf_J6_compare_7cf53 L) (fun r_8 u3' => ?_)
      have u3 : HG true true ad δ r_8.2 := u3'
      exact hs_mono (hj_X3_runsWith_71 L h_kt10) (fun _ hr => u3.t (hr))
    · skip
      exact hj_X3_runsWith_71 L h_kt10
  · skip
    exact hj_X3_runsWith_71 L h_kt10
theorem hl_X3_runsWith_10 {ad : List Nat} {h : hp} (L : Lay TLx ad h) {N : Nat} {a0 : Nat} {a1 : Nat}  : ∀ (n : Nat) (x2v : Int32) (x3v : Int32) (x4v : Int32) (x5v : Int32) (δ : dp), hs (L_X3_runsWith_10 N h.1 a0 a1 n x2v x3v x4v x5v δ) (fun r => HG true true ad δ r.2) := by
  intro n
  induction n with
  | zero => intro x2v x3v x4v x5v δ; unfold L_X3_runsWith_10; exact hs_none
  | succ n ih =>
    intro x2v x3v x4v x5v δ
    unfold L_X3_runsWith_10
    refine hs_ite (fun _ => ?_) (fun _ => ?_)
    · skip
      exact hj_X3_runsWith_28 L ih
    · skip
      refine hs_ite (fun _ => ?_) (fun _ => ?_)
      · skip
        exact hs_some HG_r
      · skip
        exact hj_X3_runsWith_28 L ih
theorem hf_X3_runsWith {ad : List Nat} {h : hp} (L : Lay TLx ad h) {N : Nat} {a0 : Nat} {a1 : Nat}  {δ : dp} : hs (D_X3_runsWith N h.1 a0 a1 δ) (fun r => HG true true ad δ r.2) := by
  unfold D_X3_runsWith
  exact hl_X3_runsWith_10 L N 0 0 0 0 δ
theorem hf_X11_runs {ad : List Nat} {h : hp} (L : Lay TLx ad h) {N : Nat} {a0 : Nat} {x1 : Int32} {x2 : Int32} (k11_a0 : q_K h.1 a0 = 11) {δ : dp} : hs (D_X11_runs N h.1 a0 x1 x2 δ) (fun r => HG true false ad δ r.2) := by
  unfold D_X11_runs
  refine hs_bxv (hf_X11_needHouse L k11_a0) (fun _ _ u1' => u1') (fun δ_3 u1' => ?_)
  have u1 : HG true false ad δ δ_3 := u1'
  refine hs_bxv (hf_X11_needHouse L k11_a0) (fun _ _ u2' => u1.t (u2')) (fun δ_6 u2' => ?_)
  have u2 : HG true false ad δ δ_6 := u1.t (u2')
  refine hs_ob (fun b_7 hb_7 => ?_)
  refine hs_gd (fun gz3 => ?_)
  refine hs_ob (fun b_9 hb_9 => ?_)
  refine hs_ob (fun b_11 hb_11 => ?_)
  refine hs_ob (fun b_13 hb_13 => ?_)
  refine hs_gd (fun gz4 => ?_)
  refine hs_ob (fun b_15 hb_15 => ?_)
  refine hs_ob (fun b_17 hb_17 => ?_)
  refine hs_bind (hf_X3_runsWith L) (fun r_19 u5' => ?_)
  have u5 : HG true false ad δ r_19.2 := u2.t ((u5').w (by decide) (by decide))
  exact hs_some u5
theorem hj_X11_needThief_12 {ad : List Nat} {h : hp} (L : Lay TLx ad h) {N : Nat} {a0 : Nat} {x1 : Int32} (k11_a0 : q_K h.1 a0 = 11) {δ : dp} : hs (J_X11_needThief_12 N h.1 a0 x1 δ) (fun r => HG true false ad δ r.2) := by
  unfold J_X11_needThief_12
  refine hs_ob (fun b_2 hb_2 => ?_)
  refine hs_gd (fun gz1 => ?_)
  refine hs_gd (fun gz2 => ?_)
  refine hs_bdv (fun δ_4 e3 => ?_)
  have u3 : HG true false ad δ δ_4 := HG.Z HG_r e3 (nq_11_13 L k11_a0 hb_2)
  exact hs_some u3
theorem hf_X11_needThief {ad : List Nat} {h : hp} (L : Lay TLx ad h) {N : Nat} {a0 : Nat} {x1 : Int32} (k11_a0 : q_K h.1 a0 = 11) {δ : dp} : hs (D_X11_needThief N h.1 a0 x1 δ) (fun r => HG true false ad δ r.2) := by
  unfold D_X11_needThief
  refine hs_ite (fun _ => ?_) (fun _ => ?_)
  · skip
    exact hj_X11_needThief_12 L k11_a0
  · skip
    refine hs_ite (fun _ => ?_) (fun _ => ?_)
    · skip
      exact hs_some HG_r
    · skip
      exact hj_X11_needThief_12 L k11_a0
theorem hf_X3_copyFrom {ad : List Nat} {h : hp} (L : Lay TLx ad h) {N : Nat} {a0 : Nat} {a1 : Nat} (c3_a0 : q_K h.1 a0 = 3 ∧ nh ad a0) {δ : dp} : hs (D_X3_copyFrom N h.1 a0 a1 δ) (fun r => HG true true ad δ r) := by
  unfold D_X3_copyFrom
  refine hs_ob (fun b_1 hb_1 => ?_)
  refine hs_bind (hf_J9_min_7cf53 L) (fun r_3 u1' => ?_)
  have u1 : HG true true ad δ r_3.2 := u1'
  refine hs_bdv (fun δ_4 e2 => ?_)
  have u2 : HG true true ad δ δ_4 := HG.M u1 e2 c3_a0.2
  refine hs_ob (fun b_6 hb_6 => ?_)
  refine hs_ob (fun b_8 hb_8 => ?_)
  refine hs_gd (fun gz3 => ?_)
  refine hs_bdv (fun δ_10 e4 => ?_)
  have u4 : HG true true ad δ δ_10 := HG.C u2 e4 (nr3 L c3_a0 hb_8)
  exact hs_some u4
theorem hf_X4_begin {ad : List Nat} {h : hp} (L : Lay TLx ad h) {N : Nat} {a0 : Nat} {a1 : Nat} {x2 : Int32} (k4_a0 : q_K h.1 a0 = 4) {δ : dp} : hs (D_X4_begin N h.1 a0 a1 x2 δ) (fun r => HG true true ad δ r) := by
  unfold D_X4_begin
  refine hs_ob (fun b_1 hb_1 => ?_)
  refine hs_bind (hf_X3_copyFrom L (c3O_4_1 L k4_a0 hb_1)) (fun r_3 u1' => ?_)
  have u1 : HG true true ad δ r_3 := u1'
  refine hs_bdv (fun δ_4 e2 => ?_)
  have u2 : HG true true ad δ δ_4 := HG.I u1 e2 (by decide) (by decide)
  refine hs_bdv (fun δ_6 e3 => ?_)
  have u3 : HG true true ad δ δ_6 := HG.I u2 e3 (by decide) (by decide)
  refine hs_bdv (fun δ_8 e4 => ?_)
  have u4 : HG true true ad δ δ_8 := HG.I u3 e4 (by decide) (by decide)
  refine hs_bdv (fun δ_10 e5 => ?_)
  have u5 : HG true true ad δ δ_10 := HG.I u4 e5 (by decide) (by decide)
  refine hs_bdv (fun δ_12 e6 => ?_)
  have u6 : HG true true ad δ δ_12 := HG.I u5 e6 (by decide) (by decide)
  refine hs_bdv (fun δ_14 e7 => ?_)
  have u7 : HG true true ad δ δ_14 := HG.I u6 e7 (by decide) (by decide)
  refine hs_bdv (fun δ_16 e8 => ?_)
  have u8 : HG true true ad δ δ_16 := HG.I u7 e8 (by decide) (by decide)
  refine hs_bdv (fun δ_18 e9 => ?_)
  have u9 : HG true true ad δ δ_18 := HG.I u8 e9 (by decide) (by decide)
  refine hs_bdv (fun δ_20 e10 => ?_)
  have u10 : HG true true ad δ δ_20 := HG.I u9 e10 (by decide) (by decide)
  refine hs_bdv (fun δ_22 e11 => ?_)
  have u11 : HG true true ad δ δ_22 := HG.I u10 e11 (by decide) (by decide)
  refine hs_bdv (fun δ_24 e12 => ?_)
  have u12 : HG true true ad δ δ_24 := HG.I u11 e12 (by decide) (by decide)
  exact hs_some u12
theorem hj_X4_goRound_43 {ad : List Nat} {h : hp} (L : Lay TLx ad h) {N : Nat} {a0 : Nat} {a1 : Nat} {x2 : Int32}  {δ : dp} : hs (J_X4_goRound_43 N h.1 a0 a1 x2 δ) (fun r => HG true true ad δ r) := by
  unfold J_X4_goRound_43
  exact hs_some HG_r
theorem hf_X4_goRound {ad : List Nat} {h : hp} (L : Lay TLx ad h) {N : Nat} {a0 : Nat} {a1 : Nat} {x2 : Int32} (k4_a0 : q_K h.1 a0 = 4) {δ : dp} : hs (D_X4_goRound N h.1 a0 a1 x2 δ) (fun r => HG true true ad δ r) := by
  unfold D_X4_goRound
  refine hs_ob (fun b_1 hb_1 => ?_)
  refine hs_gd (fun gz1 => ?_)
  refine hs_biv (fun x_3 _ => ?_)
  refine hs_ob (fun b_5 hb_5 => ?_)
  refine hs_gd (fun gz2 => ?_)
  refine hs_gd (fun gz3 => ?_)
  refine hs_bdv (fun δ_7 e4 => ?_)
  have u4 : HG true true ad δ δ_7 := HG.R HG_r e4 (nrO_4_3 L k4_a0 hb_5)
  refine hs_ob (fun b_9 hb_9 => ?_)
  refine hs_gd (fun gz5 => ?_)
  refine hs_ob (fun b_11 hb_11 => ?_)
  refine hs_gd (fun gz6 => ?_)
  refine hs_ite (fun _ => ?_) (fun _ => ?_)
  · skip
    exact hs_mono (hj_X4_goRound_43 L) (fun _ hr => u4.t (hr))
  · skip
    refine hs_bdv (fun δ_14 e7 => ?_)
    have u7 : HG true true ad δ δ_14 := HG.I u4 e7 (by decide) (by decide)
    exact hs_mono (hj_X4_goRound_43 L) (fun _ hr => u7.t (hr))
theorem hj_X4_hold_29 {ad : List Nat} {h : hp} (L : Lay TLx ad h) {N : Nat} {a0 : Nat} {x1 : Int32}  {δ : dp} : hs (J_X4_hold_29 N h.1 a0 x1 δ) (fun r => HG true true ad δ r) := by
  unfold J_X4_hold_29
  exact hs_some HG_r
theorem hf_X4_hold {ad : List Nat} {h : hp} (L : Lay TLx ad h) {N : Nat} {a0 : Nat} {x1 : Int32} (k4_a0 : q_K h.1 a0 = 4) {δ : dp} : hs (D_X4_hold N h.1 a0 x1 δ) (fun r => HG true true ad δ r) := by
  unfold D_X4_hold
  refine hs_ite (fun _ => ?_) (fun _ => ?_)
  · skip
    exact hj_X4_hold_29 L
  · skip
    refine hs_ob (fun b_2 hb_2 => ?_)
    refine hs_gd (fun gz1 => ?_)
    refine hs_bdv (fun δ_4 e2 => ?_)
    have u2 : HG true true ad δ δ_4 := HG.R HG_r e2 (nrO_4_4 L k4_a0 hb_2)
    refine hs_bdv (fun δ_6 e3 => ?_)
    have u3 : HG true true ad δ δ_6 := HG.I u2 e3 (by decide) (by decide)
    exact hs_mono (hj_X4_hold_29 L) (fun _ hr => u3.t (hr))
theorem hj_X4_makeCall_146 {ad : List Nat} {h : hp} (L : Lay TLx ad h) {N : Nat} {a0 : Nat} {x1 : Int32} {x2 : Int32} {xs0 : Int32} {as1 : Nat}  {δ : dp} : hs (J_X4_makeCall_146 N h.1 a0 x1 x2 xs0 as1 δ) (fun r => HG true true ad δ r) := by
  unfold J_X4_makeCall_146
  refine hs_gp (fun gk1 => ?_)
  refine hs_bdv (fun δ_28 e2 => ?_)
  have u2 : HG true true ad δ δ_28 := HG.I HG_r e2 (by decide) (by decide)
  exact hs_some u2
theorem hj_X4_makeCall_54 {ad : List Nat} {h : hp} (L : Lay TLx ad h) {N : Nat} {a0 : Nat} {x1 : Int32} {x2 : Int32} {x3v : Int32} (k4_a0 : q_K h.1 a0 = 4) {δ : dp} : hs (J_X4_makeCall_54 N h.1 a0 x1 x2 x3v δ) (fun r => HG true true ad δ r) := by
  unfold J_X4_makeCall_54
  refine hs_bdv (fun δ_6 e1 => ?_)
  have u1 : HG true true ad δ δ_6 := HG.I HG_r e1 (by decide) (by decide)
  refine hs_ob (fun b_8 hb_8 => ?_)
  refine hs_ob (fun b_10 hb_10 => ?_)
  refine hs_bind (hf_X3_touchesInWords L) (fun r_12 u2' => ?_)
  have u2 : HG true true ad δ r_12.2 := u1.t (u2')
  refine hs_bdv (fun δ_13 e3 => ?_)
  have u3 : HG true true ad δ δ_13 := HG.I u2 e3 (by decide) (by decide)
  refine hs_ob (fun b_15 hb_15 => ?_)
  refine hs_bind (hf_X3_touchesInRow L) (fun r_17 u4' => ?_)
  have u4 : HG true true ad δ r_17.2 := u3.t (u4')
  refine hs_bdv (fun δ_18 e5 => ?_)
  have u5 : HG true true ad δ δ_18 := HG.I u4 e5 (by decide) (by decide)
  refine hs_ob (fun b_20 hb_20 => ?_)
  refine hs_bind (hf_X3_answer L (c3O_4_1 L k4_a0 hb_20)) (fun r_22 u6' => ?_)
  have u6 : HG true true ad δ r_22.2 := u5.t (u6')
  refine hs_bdv (fun δ_23 e7 => ?_)
  have u7 : HG true true ad δ δ_23 := HG.I u6 e7 (by decide) (by decide)
  refine hs_bdv (fun δ_25 e8 => ?_)
  have u8 : HG true true ad δ δ_25 := HG.I u7 e8 (by decide) (by decide)
  refine hs_ite (fun _ => ?_) (fun _ => ?_)
  · skip
    exact hs_mono (hj_X4_makeCall_146 L) (fun _ hr => u8.t (hr))
  · skip
    exact hs_mono (hj_X4_makeCall_146 L) (fun _ hr => u8.t (hr))
theorem hj_X4_makeCall_23 {ad : List Nat} {h : hp} (L : Lay TLx ad h) {N : Nat} {a0 : Nat} {x1 : Int32} {x2 : Int32} (k4_a0 : q_K h.1 a0 = 4) {δ : dp} : hs (J_X4_makeCall_23 N h.1 a0 x1 x2 δ) (fun r => HG true true ad δ r) := by
  unfold J_X4_makeCall_23
  refine hs_ob (fun b_2 hb_2 => ?_)
  refine hs_bind (hf_X1_touchesOf L) (fun r_4 u1' => ?_)
  have u1 : HG true true ad δ r_4.2 := u1'
  refine hs_ite (fun _ => ?_) (fun _ => ?_)
  · skip
    exact hs_mono (hj_X4_makeCall_54 L k4_a0) (fun _ hr => u1.t (hr))
  · skip
    refine hs_bdv (fun δ_31 e2 => ?_)
    have u2 : HG true true ad δ δ_31 := HG.I u1 e2 (by decide) (by decide)
    refine hs_bdv (fun δ_33 e3 => ?_)
    have u3 : HG true true ad δ δ_33 := HG.I u2 e3 (by decide) (by decide)
    exact hs_mono (hj_X4_makeCall_54 L k4_a0) (fun _ hr => u3.t (hr))
theorem hf_X4_makeCall {ad : List Nat} {h : hp} (L : Lay TLx ad h) {N : Nat} {a0 : Nat} {x1 : Int32} {x2 : Int32} (k4_a0 : q_K h.1 a0 = 4) {δ : dp} : hs (D_X4_makeCall N h.1 a0 x1 x2 δ) (fun r => HG true true ad δ r) := by
  unfold D_X4_makeCall
  refine hs_ite (fun _ => ?_) (fun _ => ?_)
  · skip
    refine hs_ob (fun b_35 hb_35 => ?_)
    refine hs_ite (fun _ => ?_) (fun _ => ?_)
    · skip
      exact hj_X4_makeCall_23 L k4_a0
    · skip
      refine hs_bdv (fun δ_38 e1 => ?_)
      have u1 : HG true true ad δ δ_38 := HG.I HG_r e1 (by decide) (by decide)
      exact hs_some u1
  · skip
    exact hj_X4_makeCall_23 L k4_a0
theorem hf_X4_nextDraw {ad : List Nat} {h : hp} (L : Lay TLx ad h) {N : Nat} {a0 : Nat}  {δ : dp} : hs (D_X4_nextDraw N h.1 a0 δ) (fun r => HG true true ad δ r.2) := by
  unfold D_X4_nextDraw
  refine hs_bdv (fun δ_1 e1 => ?_)
  have u1 : HG true true ad δ δ_1 := HG.I HG_r e1 (by decide) (by decide)
  refine hs_ob (fun b_3 hb_3 => ?_)
  refine hs_bind (hf_X5_greatest L) (fun r_5 u2' => ?_)
  have u2 : HG true true ad δ r_5.2 := u1.t (u2')
  refine hs_gd (fun gz3 => ?_)
  exact hs_some u2
theorem hf_X4_yieldHeld {ad : List Nat} {h : hp} (L : Lay TLx ad h) {N : Nat} {a0 : Nat}  {δ : dp} : hs (D_X4_yieldHeld N h.1 a0 δ) (fun r => HG true true ad δ r.2) := by
  unfold D_X4_yieldHeld
  refine hs_ite (fun _ => ?_) (fun _ => ?_)
  · skip
    refine hs_bdv (fun δ_2 e1 => ?_)
    have u1 : HG true true ad δ δ_2 := HG.I HG_r e1 (by decide) (by decide)
    refine hs_ob (fun b_4 hb_4 => ?_)
    refine hs_gd (fun gz2 => ?_)
    exact hs_some u1
  · skip
    exact hs_some HG_r
theorem hj_X4_reckon_72 {ad : List Nat} {h : hp} (L : Lay TLx ad h) {N : Nat} {a0 : Nat} {x1 : Int32}  {δ : dp} : hs (J_X4_reckon_72 N h.1 a0 x1 δ) (fun r => HG true true ad δ r) := by
  unfold J_X4_reckon_72
  exact hs_some HG_r
theorem hj_X4_reckon_69 {ad : List Nat} {h : hp} (L : Lay TLx ad h) {N : Nat} {a0 : Nat} {x1 : Int32} {xs0 : Int32} {as1 : Nat} (k4_as1 : q_K h.1 as1 = 4) {δ : dp} : hs (J_X4_reckon_69 N h.1 a0 x1 xs0 as1 δ) (fun r => HG true true ad δ r) := by
  unfold J_X4_reckon_69
  refine hs_bind (hf_X4_hold L k4_as1) (fun r_8 u1' => ?_)
  have u1 : HG true true ad δ r_8 := u1'
  exact hs_mono (hj_X4_reckon_72 L) (fun _ hr => u1.t (hr))
theorem hf_X4_reckon {ad : List Nat} {h : hp} (L : Lay TLx ad h) {N : Nat} {a0 : Nat} {x1 : Int32} (k4_a0 : q_K h.1 a0 = 4) {δ : dp} : hs (D_X4_reckon N h.1 a0 x1 δ) (fun r => HG true true ad δ r) := by
  unfold D_X4_reckon
  refine hs_bind (hf_X4_yieldHeld L) (fun r_1 u1' => ?_)
  have u1 : HG true true ad δ r_1.2 := u1'
  refine hs_bind (hf_X4_yieldHeld L) (fun r_2 u2' => ?_)
  have u2 : HG true true ad δ r_2.2 := u1.t (u2')
  refine hs_ite (fun _ => ?_) (fun _ => ?_)
  · skip
    refine hs_bind (hf_X4_hold L k4_a0) (fun r_11 u3' => ?_)
    have u3 : HG true true ad δ r_11 := u2.t (u3')
    exact hs_mono (hj_X4_reckon_72 L) (fun _ hr => u3.t (hr))
  · skip
    refine hs_ite (fun _ => ?_) (fun _ => ?_)
    · skip
      refine hs_bind (hf_X4_hold L k4_a0) (fun r_10 u4' => ?_)
      have u4 : HG true true ad δ r_10 := u2.t (u4')
      exact hs_mono (hj_X4_reckon_72 L) (fun _ hr => u4.t (hr))
    · skip
      refine hs_ite (fun _ => ?_) (fun _ => ?_)
      · skip
        refine hs_bind (hf_X4_hold L k4_a0) (fun r_9 u5' => ?_)
        have u5 : HG true true ad δ r_9 := u2.t (u5')
        exact hs_mono (hj_X4_reckon_72 L) (fun _ hr => u5.t (hr))
      · skip
        refine hs_ite (fun _ => ?_) (fun _ => ?_)
        · skip
          exact hs_mono (hj_X4_reckon_69 L k4_a0) (fun _ hr => u2.t (hr))
        · skip
          refine hs_gd (fun gz6 => ?_)
          exact hs_mono (hj_X4_reckon_69 L k4_a0) (fun _ hr => u2.t (hr))
theorem hj_X4_step_195 {ad : List Nat} {h : hp} (L : Lay TLx ad h) {N : Nat} {a0 : Nat} {a1 : Nat}  {δ : dp} : hs (J_X4_step_195 N h.1 a0 a1 δ) (fun r => HG true true ad δ r) := by
  unfold J_X4_step_195
  exact hs_some HG_r
theorem hj_X4_step_190 {ad : List Nat} {h : hp} (L : Lay TLx ad h) {N : Nat} {a0 : Nat} {a1 : Nat} {x3v : Int32} (k4_a0 : q_K h.1 a0 = 4) {δ : dp} : hs (J_X4_step_190 N h.1 a0 a1 x3v δ) (fun r => HG true true ad δ r) := by
  unfold J_X4_step_190
  refine hs_bind (hf_X4_reckon L k4_a0) (fun r_27 u1' => ?_)
  have u1 : HG true true ad δ r_27 := u1'
  exact hs_mono (hj_X4_step_195 L) (fun _ hr => u1.t (hr))
theorem hf_X4_step {ad : List Nat} {h : hp} (L : Lay TLx ad h) {N : Nat} {a0 : Nat} {a1 : Nat} (k4_a0 : q_K h.1 a0 = 4) {δ : dp} : hs (D_X4_step N h.1 a0 a1 δ) (fun r => HG true true ad δ r) := by
  unfold D_X4_step
  refine hs_ob (fun b_1 hb_1 => ?_)
  refine hs_gd (fun gz1 => ?_)
  refine hs_biv (fun x_3 _ => ?_)
  refine hs_ob (fun b_5 hb_5 => ?_)
  refine hs_gd (fun gz2 => ?_)
  refine hs_biv (fun x_7 _ => ?_)
  refine hs_bdv (fun δ_9 e3 => ?_)
  have u3 : HG true true ad δ δ_9 := HG.I HG_r e3 (by decide) (by decide)
  refine hs_ite (fun _ => ?_) (fun _ => ?_)
  · skip
    refine hs_bind (hf_X4_hold L k4_a0) (fun r_12 u4' => ?_)
    have u4 : HG true true ad δ r_12 := u3.t (u4')
    exact hs_mono (hj_X4_step_195 L) (fun _ hr => u4.t (hr))
  · skip
    refine hs_ite (fun _ => ?_) (fun _ => ?_)
    · skip
      refine hs_ob (fun b_14 hb_14 => ?_)
      refine hs_gd (fun gz5 => ?_)
      refine hs_bind (hf_X4_hold L k4_a0) (fun r_16 u6' => ?_)
      have u6 : HG true true ad δ r_16 := u3.t (u6')
      exact hs_mono (hj_X4_step_195 L) (fun _ hr => u6.t (hr))
    · skip
      refine hs_ite (fun _ => ?_) (fun _ => ?_)
      · skip
        refine hs_bind (hf_X4_hold L k4_a0) (fun r_18 u7' => ?_)
        have u7 : HG true true ad δ r_18 := u3.t (u7')
        exact hs_mono (hj_X4_step_195 L) (fun _ hr => u7.t (hr))
      · skip
        refine hs_ite (fun _ => ?_) (fun _ => ?_)
        · skip
          refine hs_ob (fun b_20 hb_20 => ?_)
          refine hs_bind (hf_X4_hold L k4_a0) (fun r_22 u8' => ?_)
          have u8 : HG true true ad δ r_22 := u3.t (u8')
          exact hs_mono (hj_X4_step_195 L) (fun _ hr => u8.t (hr))
        · skip
          refine hs_ite (fun _ => ?_) (fun _ => ?_)
          · skip
            refine hs_bind (hf_X4_nextDraw L) (fun r_24 u9' => ?_)
            have u9 : HG true true ad δ r_24.2 := u3.t (u9')
            refine hs_bind (hf_X4_hold L k4_a0) (fun r_25 u10' => ?_)
            have u10 : HG true true ad δ r_25 := u9.t (u10')
            exact hs_mono (hj_X4_step_195 L) (fun _ hr => u10.t (hr))
          · skip
            refine hs_ite (fun _ => ?_) (fun _ => ?_)
            · skip
              exact hs_mono (hj_X4_step_190 L k4_a0) (fun _ hr => u3.t (hr))
            · skip
              refine hs_ite (fun _ => ?_) (fun _ => ?_)
              · skip
                exact hs_mono (hj_X4_step_190 L k4_a0) (fun _ hr => u3.t (hr))
              · skip
                refine hs_ite (fun _ => ?_) (fun _ => ?_)
                · skip
                  exact hs_mono (hj_X4_step_190 L k4_a0) (fun _ hr => u3.t (hr))
                · skip
                  refine hs_ite (fun _ => ?_) (fun _ => ?_)
                  · skip
                    exact hs_mono (hj_X4_step_190 L k4_a0) (fun _ hr => u3.t (hr))
                  · skip
                    refine hs_ite (fun _ => ?_) (fun _ => ?_)
                    · skip
                      refine hs_bind (hf_X4_yieldHeld L) (fun r_32 u11' => ?_)
                      have u11 : HG true true ad δ r_32.2 := u3.t (u11')
                      refine hs_ob (fun b_33 hb_33 => ?_)
                      refine hs_bind (hf_X5_greatest L) (fun r_35 u12' => ?_)
                      have u12 : HG true true ad δ r_35.2 := u11.t (u12')
                      refine hs_bind (hf_X4_makeCall L k4_a0) (fun r_36 u13' => ?_)
                      have u13 : HG true true ad δ r_36 := u12.t (u13')
                      exact hs_mono (hj_X4_step_195 L) (fun _ hr => u13.t (hr))
                    · skip
                      refine hs_ite (fun _ => ?_) (fun _ => ?_)
                      · skip
                        refine hs_ob (fun b_38 hb_38 => ?_)
                        refine hs_gd (fun gz14 => ?_)
                        refine hs_bdv (fun δ_40 e15 => ?_)
                        have u15 : HG true true ad δ δ_40 := HG.R u3 e15 (nrO_4_3 L k4_a0 hb_38)
                        exact hs_mono (hj_X4_step_195 L) (fun _ hr => u15.t (hr))
                      · skip
                        refine hs_ite (fun _ => ?_) (fun _ => ?_)
                        · skip
                          refine hs_bind (hf_X4_goRound L k4_a0) (fun r_43 u16' => ?_)
                          have u16 : HG true true ad δ r_43 := u3.t (u16')
                          exact hs_mono (hj_X4_step_195 L) (fun _ hr => u16.t (hr))
                        · skip
                          exact hs_mono (hj_X4_step_190 L k4_a0) (fun _ hr => u3.t (hr))
theorem hj_X4_go_77 {ad : List Nat} {h : hp} (L : Lay TLx ad h) {N : Nat} {a0 : Nat} {a1 : Nat} {a2 : Nat} {x3 : Int32}  {δ : dp} : hs (J_X4_go_77 N h.1 a0 a1 a2 x3 δ) (fun r => HG false true ad δ r) := by
  unfold J_X4_go_77
  refine hs_bdv (fun δ_4 e1 => ?_)
  have u1 : HG false true ad δ δ_4 := HG.I HG_r e1 (by decide) (by decide)
  refine hs_bdv (fun δ_6 e2 => ?_)
  have u2 : HG false true ad δ δ_6 := HG.V u1 e2
  refine hs_bdv (fun δ_8 e3 => ?_)
  have u3 : HG false true ad δ δ_8 := HG.V u2 e3
  refine hs_bdv (fun δ_10 e4 => ?_)
  have u4 : HG false true ad δ δ_10 := HG.I u3 e4 (by decide) (by decide)
  exact hs_some u4
theorem hl_X4_go_41 {ad : List Nat} {h : hp} (L : Lay TLx ad h) {N : Nat} {a0 : Nat} {a1 : Nat} {a2 : Nat} {x3 : Int32} (k4_a0 : q_K h.1 a0 = 4) : ∀ (n : Nat) (x4v : Int32) (δ : dp), hs (L_X4_go_41 N h.1 a0 a1 a2 x3 n x4v δ) (fun r => HG false true ad δ r) := by
  intro n
  induction n with
  | zero => intro x4v δ; unfold L_X4_go_41; exact hs_none
  | succ n ih =>
    intro x4v δ
    unfold L_X4_go_41
    refine hs_ite (fun _ => ?_) (fun _ => ?_)
    · skip
      exact hj_X4_go_77 L
    · skip
      refine hs_ite (fun _ => ?_) (fun _ => ?_)
      · skip
        exact hj_X4_go_77 L
      · skip
        refine hs_ite (fun _ => ?_) (fun _ => ?_)
        · skip
          refine hs_bind (hf_X4_step L k4_a0) (fun r_14 u1' => ?_)
          have u1 : HG false true ad δ r_14 := (u1').w (by decide) (by decide)
          refine hs_biv (fun x_15 _ => ?_)
          exact hs_mono (ih x_15 r_14) (fun _ hr => u1.t (hr))
        · skip
          exact hj_X4_go_77 L
theorem hj_X4_go_32 {ad : List Nat} {h : hp} (L : Lay TLx ad h) {N : Nat} {a0 : Nat} {a1 : Nat} {a2 : Nat} {x3 : Int32} (k4_a0 : q_K h.1 a0 = 4) {δ : dp} : hs (J_X4_go_32 N h.1 a0 a1 a2 x3 δ) (fun r => HG false true ad δ r) := by
  unfold J_X4_go_32
  refine hs_bind (hf_X4_begin L k4_a0) (fun r_2 u1' => ?_)
  have u1 : HG false true ad δ r_2 := (u1').w (by decide) (by decide)
  exact hs_mono (hl_X4_go_41 L k4_a0 N 0 r_2) (fun _ hr => u1.t (hr))
theorem hf_X4_go {ad : List Nat} {h : hp} (L : Lay TLx ad h) {N : Nat} {a0 : Nat} {a1 : Nat} {a2 : Nat} {x3 : Int32} (k4_a0 : q_K h.1 a0 = 4) {δ : dp} : hs (D_X4_go N h.1 a0 a1 a2 x3 δ) (fun r => HG false true ad δ r) := by
  unfold D_X4_go
  refine hs_ite (fun _ => ?_) (fun _ => ?_)
  · skip
    exact hj_X4_go_32 L k4_a0
  · skip
    refine hs_ite (fun _ => ?_) (fun _ => ?_)
    · skip
      refine hs_ite (fun _ => ?_) (fun _ => ?_)
      · skip
        refine hs_ite (fun _ => ?_) (fun _ => ?_)
        · skip
          exact hs_some HG_r
        · skip
          exact hj_X4_go_32 L k4_a0
      · skip
        exact hj_X4_go_32 L k4_a0
    · skip
      exact hj_X4_go_32 L k4_a0
theorem hf_X4_tell {ad : List Nat} {h : hp} (L : Lay TLx ad h) {N : Nat} {a0 : Nat} {x1 : Int32}  {δ : dp} : hs (D_X4_tell N h.1 a0 x1 δ) (fun r => HG true true ad δ r.2) := by
  unfold D_X4_tell
  refine hs_ite (fun _ => ?_) (fun _ => ?_)
  · skip
    exact hs_some HG_r
  · skip
    refine hs_ite (fun _ => ?_) (fun _ => ?_)
    · skip
      exact hs_some HG_r
    · skip
      refine hs_ite (fun _ => ?_) (fun _ => ?_)
      · skip
        exact hs_some HG_r
      · skip
        refine hs_ite (fun _ => ?_) (fun _ => ?_)
        · skip
          exact hs_some HG_r
        · skip
          refine hs_ite (fun _ => ?_) (fun _ => ?_)
          · skip
            exact hs_some HG_r
          · skip
            refine hs_ite (fun _ => ?_) (fun _ => ?_)
            · skip
              exact hs_some HG_r
            · skip
              refine hs_ob (fun b_7 hb_7 => ?_)
              exact hs_some HG_r
theorem hj_X11_steals_28 {ad : List Nat} {h : hp} (L : Lay TLx ad h) {N : Nat} {a0 : Nat} {x1 : Int32} {x2 : Int32} {x3 : Int32} {x4 : Int32} {xs0 : Int32} {as1 : Nat} (k11_a0 : q_K h.1 a0 = 11) (k11_as1 : q_K h.1 as1 = 11) {δ : dp} : hs (J_X11_steals_28 N h.1 a0 x1 x2 x3 x4 xs0 as1 δ) (fun r => HG false false ad δ r.2) := by
  unfold J_X11_steals_28
  refine hs_bxv (hf_X11_need L k11_as1) (fun _ _ u1' => (u1').w (by decide) (by decide)) (fun δ_10 u1' => ?_)
  have u1 : HG false false ad δ δ_10 := (u1').w (by decide) (by decide)
  refine hs_ob (fun b_11 hb_11 => ?_)
  refine hs_ob (fun b_13 hb_13 => ?_)
  refine hs_gd (fun gz2 => ?_)
  refine hs_ob (fun b_15 hb_15 => ?_)
  refine hs_ob (fun b_17 hb_17 => ?_)
  refine hs_gd (fun gz3 => ?_)
  refine hs_ob (fun b_19 hb_19 => ?_)
  refine hs_ob (fun b_21 hb_21 => ?_)
  refine hs_bind (hf_X4_go L (kO_11_8 L k11_a0 hb_11)) (fun r_23 u4' => ?_)
  have u4 : HG false false ad δ r_23 := u1.t ((u4').w (by decide) (by decide))
  refine hs_ob (fun b_24 hb_24 => ?_)
  refine hs_bind (hf_X4_tell L) (fun r_26 u5' => ?_)
  have u5 : HG false false ad δ r_26.2 := u4.t ((u5').w (by decide) (by decide))
  exact hs_some u5
theorem hj_X11_steals_27 {ad : List Nat} {h : hp} (L : Lay TLx ad h) {N : Nat} {a0 : Nat} {x1 : Int32} {x2 : Int32} {x3 : Int32} {x4 : Int32} {as0 : Nat} (k11_a0 : q_K h.1 a0 = 11) (k11_as0 : q_K h.1 as0 = 11) {δ : dp} : hs (J_X11_steals_27 N h.1 a0 x1 x2 x3 x4 as0 δ) (fun r => HG false false ad δ r.2) := by
  unfold J_X11_steals_27
  exact hj_X11_steals_28 L k11_a0 k11_as0
theorem hf_X11_steals {ad : List Nat} {h : hp} (L : Lay TLx ad h) {N : Nat} {a0 : Nat} {x1 : Int32} {x2 : Int32} {x3 : Int32} {x4 : Int32} (k11_a0 : q_K h.1 a0 = 11) {δ : dp} : hs (D_X11_steals N h.1 a0 x1 x2 x3 x4 δ) (fun r => HG false false ad δ r.2) := by
  unfold D_X11_steals
  refine hs_bxv (hf_X11_needHouse L k11_a0) (fun _ _ u1' => (u1').w (by decide) (by decide)) (fun δ_3 u1' => ?_)
  have u1 : HG false false ad δ δ_3 := (u1').w (by decide) (by decide)
  refine hs_bxv (hf_X11_needThief L k11_a0) (fun _ _ u2' => u1.t ((u2').w (by decide) (by decide))) (fun δ_6 u2' => ?_)
  have u2 : HG false false ad δ δ_6 := u1.t ((u2').w (by decide) (by decide))
  refine hs_ite (fun _ => ?_) (fun _ => ?_)
  · skip
    exact hs_mono (hj_X11_steals_27 L k11_a0 k11_a0) (fun _ hr => u2.t (hr))
  · skip
    refine hs_ite (fun _ => ?_) (fun _ => ?_)
    · skip
      exact hs_mono (hj_X11_steals_27 L k11_a0 k11_a0) (fun _ hr => u2.t (hr))
    · skip
      exact hs_mono (hj_X11_steals_28 L k11_a0 k11_a0) (fun _ hr => u2.t (hr))
theorem hl_X11_reached_21 {ad : List Nat} {h : hp} (L : Lay TLx ad h) {N : Nat} {a0 : Nat} {x1 : Int32} (k11_a0 : q_K h.1 a0 = 11) : ∀ (n : Nat) (x2v : Int32) (x3v : Int32) (δ : dp), hs (L_X11_reached_21 N h.1 a0 x1 n x2v x3v δ) (fun r => HG true true ad δ r.2) := by
  intro n
  induction n with
  | zero => intro x2v x3v δ; unfold L_X11_reached_21; exact hs_none
  | succ n ih =>
    intro x2v x3v δ
    unfold L_X11_reached_21
    refine hs_ob (fun b_8 hb_8 => ?_)
    refine hs_bind (hf_X5_mostInSets L) (fun r_10 u1' => ?_)
    have u1 : HG true true ad δ r_10.2 := u1'
    refine hs_ite (fun _ => ?_) (fun _ => ?_)
    · skip
      exact hs_some u1
    · skip
      refine hs_ob (fun b_12 hb_12 => ?_)
      refine hs_bind (hf_X10_learn L (kO_11_9 L k11_a0 hb_12)) (fun r_14 u2' => ?_)
      have u2 : HG true true ad δ r_14 := u1.t (u2')
      refine hs_ob (fun b_15 hb_15 => ?_)
      refine hs_ob (fun b_17 hb_17 => ?_)
      refine hs_gd (fun gz3 => ?_)
      refine hs_ob (fun b_19 hb_19 => ?_)
      refine hs_gd (fun gz4 => ?_)
      refine hs_ite (fun _ => ?_) (fun _ => ?_)
      · skip
        exact hs_some u2
      · skip
        refine hs_biv (fun x_22 _ => ?_)
        exact hs_mono (ih x2v x_22 r_14) (fun _ hr => u2.t (hr))
theorem hf_X11_reached {ad : List Nat} {h : hp} (L : Lay TLx ad h) {N : Nat} {a0 : Nat} {x1 : Int32} (k11_a0 : q_K h.1 a0 = 11) {δ : dp} : hs (D_X11_reached N h.1 a0 x1 δ) (fun r => HG true false ad δ r.2) := by
  unfold D_X11_reached
  refine hs_bind (hf_X11_mayGoThroughAll L) (fun r_1 u1' => ?_)
  have u1 : HG true false ad δ r_1.2 := (u1').w (by decide) (by decide)
  refine hs_bxv (hf_X11_need L k11_a0) (fun _ _ u2' => u1.t (u2')) (fun δ_4 u2' => ?_)
  have u2 : HG true false ad δ δ_4 := u1.t (u2')
  refine hs_ob (fun b_5 hb_5 => ?_)
  refine hs_bind (hf_X5_boundOf L) (fun r_7 u3' => ?_)
  have u3 : HG true false ad δ r_7.2 := u2.t ((u3').w (by decide) (by decide))
  exact hs_mono (hl_X11_reached_21 L k11_a0 N r_7.1 0 r_7.2) (fun _ hr => u3.t ((hr).w (by decide) (by decide)))
theorem hj_X5_mostInRows_14 {ad : List Nat} {h : hp} (L : Lay TLx ad h) {N : Nat} {a0 : Nat} {xs0 : Int32}  {δ : dp} : hs (J_X5_mostInRows_14 N h.1 a0 xs0 δ) (fun r => HG true true ad δ r.2) := by
  unfold J_X5_mostInRows_14
  exact hs_some HG_r
theorem hf_X5_mostInRows {ad : List Nat} {h : hp} (L : Lay TLx ad h) {N : Nat} {a0 : Nat}  {δ : dp} : hs (D_X5_mostInRows N h.1 a0 δ) (fun r => HG true true ad δ r.2) := by
  unfold D_X5_mostInRows
  refine hs_ite (fun _ => ?_) (fun _ => ?_)
  · skip
    exact hj_X5_mostInRows_14 L
  · skip
    exact hj_X5_mostInRows_14 L
theorem hf_X0_limitOf {ad : List Nat} {h : hp} (L : Lay TLx ad h) {N : Nat} {a0 : Nat} {x1 : Int32} {x2 : Int32} {x3 : Int32}  {δ : dp} : hs (D_X0_limitOf N h.1 a0 x1 x2 x3 δ) (fun r => HG true true ad δ r.2) := by
  unfold D_X0_limitOf
  refine hs_ob (fun b_1 hb_1 => ?_)
  refine hs_ob (fun b_3 hb_3 => ?_)
  refine hs_bind (hf_X5_mostTouches L) (fun r_5 u1' => ?_)
  have u1 : HG true true ad δ r_5.2 := u1'
  refine hs_ob (fun b_6 hb_6 => ?_)
  refine hs_gd (fun gz2 => ?_)
  refine hs_ob (fun b_8 hb_8 => ?_)
  refine hs_gd (fun gz3 => ?_)
  refine hs_biv (fun x_10 _ => ?_)
  refine hs_ite (fun _ => ?_) (fun _ => ?_)
  · skip
    refine hs_ob (fun b_27 hb_27 => ?_)
    refine hs_gd (fun gz4 => ?_)
    refine hs_ob (fun b_29 hb_29 => ?_)
    refine hs_gd (fun gz5 => ?_)
    exact hs_some u1
  · skip
    refine hs_ite (fun _ => ?_) (fun _ => ?_)
    · skip
      refine hs_ob (fun b_14 hb_14 => ?_)
      refine hs_ob (fun b_16 hb_16 => ?_)
      refine hs_bind (hf_X5_mostTouches L) (fun r_18 u6' => ?_)
      have u6 : HG true true ad δ r_18.2 := u1.t (u6')
      refine hs_biv (fun x_19 _ => ?_)
      refine hs_ob (fun b_21 hb_21 => ?_)
      refine hs_gd (fun gz7 => ?_)
      refine hs_ob (fun b_23 hb_23 => ?_)
      refine hs_bind (hf_J9_max_7cf53 L) (fun r_25 u8' => ?_)
      have u8 : HG true true ad δ r_25.2 := u6.t (u8')
      refine hs_gd (fun gz9 => ?_)
      refine hs_bind (hf_J9_max_7cf53 L) (fun r_26 u10' => ?_)
      have u10 : HG true true ad δ r_26.2 := u8.t (u10')
      exact hs_some u10
    · skip
      exact hs_some u1
theorem hl_X0_setLimits_29 {ad : List Nat} {h : hp} (L : Lay TLx ad h) {N : Nat} {a0 : Nat} {kt2 : Int32 → dp → Option (dp)} {kt10 : Int32 → Int32 → dp → Option (dp)} (k0_a0 : q_K h.1 a0 = 0) (h_kt2 : ∀ (y0 : Int32) (δ1 : dp), hs (kt2 y0 δ1) (fun r => HG true true ad δ1 r)) (h_kt10 : ∀ (y0 : Int32) (y1 : Int32) (δ1 : dp), hs (kt10 y0 y1 δ1) (fun r => HG true true ad δ1 r)) : ∀ (n : Nat) (x1v : Int32) (x2v : Int32) (x3v : Int32) (δ : dp), hs (L_X0_setLimits_29 N h.1 a0 kt2 kt10 n x1v x2v x3v δ) (fun r => HG true true ad δ r) := by
  intro n
  induction n with
  | zero => intro x1v x2v x3v δ; unfold L_X0_setLimits_29; exact hs_none
  | succ n ih =>
    intro x1v x2v x3v δ
    unfold L_X0_setLimits_29
    refine hs_ite (fun _ => ?_) (fun _ => ?_)
    · skip
      refine hs_biv (fun x_14 _ => ?_)
      exact h_kt10 x1v x_14 δ
    · skip
      refine hs_ob (fun b_16 hb_16 => ?_)
      refine hs_gd (fun gz1 => ?_)
      refine hs_ob (fun b_18 hb_18 => ?_)
      refine hs_ob (fun b_20 hb_20 => ?_)
      refine hs_gd (fun gz2 => ?_)
      refine hs_ob (fun b_22 hb_22 => ?_)
      refine hs_gd (fun gz3 => ?_)
      refine hs_bind (hf_X0_limitOf L) (fun r_24 u4' => ?_)
      have u4 : HG true true ad δ r_24.2 := u4'
      refine hs_bind (hf_J9_max_7cf53 L) (fun r_25 u5' => ?_)
      have u5 : HG true true ad δ r_25.2 := u4.t (u5')
      refine hs_gd (fun gz6 => ?_)
      refine hs_bdv (fun δ_26 e7 => ?_)
      have u7 : HG true true ad δ δ_26 := HG.R u5 e7 (nrE_0_3 L k0_a0 hb_16 (Nat.lt_of_not_le (fun z => gz1 (Or.inr z))) hb_18)
      refine hs_biv (fun x_28 _ => ?_)
      exact hs_mono (ih x1v x2v x_28 δ_26) (fun _ hr => u7.t (hr))
theorem hl_X0_setLimits_10 {ad : List Nat} {h : hp} (L : Lay TLx ad h) {N : Nat} {a0 : Nat} {kt2 : Int32 → dp → Option (dp)} (k0_a0 : q_K h.1 a0 = 0) (h_kt2 : ∀ (y0 : Int32) (δ1 : dp), hs (kt2 y0 δ1) (fun r => HG true true ad δ1 r)) : ∀ (n : Nat) (x1v : Int32) (x2v : Int32) (δ : dp), hs (L_X0_setLimits_10 N h.1 a0 kt2 n x1v x2v δ) (fun r => HG true true ad δ r) := by
  intro n
  induction n with
  | zero => intro x1v x2v δ; unfold L_X0_setLimits_10; exact hs_none
  | succ n ih =>
    intro x1v x2v δ
    unfold L_X0_setLimits_10
    refine hs_ite (fun _ => ?_) (fun _ => ?_)
    · skip
      refine hs_biv (fun x_5 _ => ?_)
      exact h_kt2 x_5 δ
    · skip
      refine hs_ob (fun b_7 hb_7 => ?_)
      refine hs_gd (fun gz1 => ?_)
      refine hs_ob (fun b_9 hb_9 => ?_)
      refine hs_gd (fun gz2 => ?_)
      refine hs_bdv (fun δ_11 e3 => ?_)
      have u3 : HG true true ad δ δ_11 := HG.R HG_r e3 (nrE_0_3 L k0_a0 hb_7 (Nat.lt_of_not_le (fun z => gz1 (Or.inr z))) hb_9)
      exact hs_mono (hl_X0_setLimits_29 L k0_a0 h_kt2 ih N x1v x2v 0 δ_11) (fun _ hr => u3.t (hr))
theorem hl_X0_setLimits_2 {ad : List Nat} {h : hp} (L : Lay TLx ad h) {N : Nat} {a0 : Nat} (k0_a0 : q_K h.1 a0 = 0) : ∀ (n : Nat) (x1v : Int32) (δ : dp), hs (L_X0_setLimits_2 N h.1 a0 n x1v δ) (fun r => HG true true ad δ r) := by
  intro n
  induction n with
  | zero => intro x1v δ; unfold L_X0_setLimits_2; exact hs_none
  | succ n ih =>
    intro x1v δ
    unfold L_X0_setLimits_2
    refine hs_ite (fun _ => ?_) (fun _ => ?_)
    · skip
      refine hs_bdv (fun δ_2 e1 => ?_)
      have u1 : HG true true ad δ δ_2 := HG.I HG_r e1 (by decide) (by decide)
      exact hs_some u1
    · skip
      exact hl_X0_setLimits_10 L k0_a0 ih N x1v 0 δ
theorem hf_X0_setLimits {ad : List Nat} {h : hp} (L : Lay TLx ad h) {N : Nat} {a0 : Nat} (k0_a0 : q_K h.1 a0 = 0) {δ : dp} : hs (D_X0_setLimits N h.1 a0 δ) (fun r => HG true true ad δ r) := by
  unfold D_X0_setLimits
  exact hl_X0_setLimits_2 L k0_a0 N 1 δ
theorem hj_X0_learn_64 {ad : List Nat} {h : hp} (L : Lay TLx ad h) {N : Nat} {a0 : Nat} {x1 : Int32}  {δ : dp} : hs (J_X0_learn_64 N h.1 a0 x1 δ) (fun r => HG true true ad δ r.2) := by
  unfold J_X0_learn_64
  exact hs_some HG_r
theorem hj_X0_find_35 {ad : List Nat} {h : hp} (L : Lay TLx ad h) {N : Nat} {T : Nat → Int32 → Int32 → dp → Option (Int32 × dp)} {a0 : Nat} {x1 : Int32} {x2 : Int32} {xs0 : Int32} (h_T : ∀ (y0 : Nat) (y1 : Int32) (y2 : Int32) (δ1 : dp), q_K h.1 y0 = 0 → hs (T y0 y1 y2 δ1) (fun r => HG true true ad δ1 r.2)) {δ : dp} : hs (J_X0_find_35 N h.1 T a0 x1 x2 xs0 δ) (fun r => HG true true ad δ r.2) := by
  unfold J_X0_find_35
  refine hs_gp (fun gk1 => ?_)
  exact hs_some HG_r
theorem hj_X0_find_34 {ad : List Nat} {h : hp} (L : Lay TLx ad h) {N : Nat} {T : Nat → Int32 → Int32 → dp → Option (Int32 × dp)} {a0 : Nat} {x1 : Int32} {x2 : Int32} (h_T : ∀ (y0 : Nat) (y1 : Int32) (y2 : Int32) (δ1 : dp), q_K h.1 y0 = 0 → hs (T y0 y1 y2 δ1) (fun r => HG true true ad δ1 r.2)) {δ : dp} : hs (J_X0_find_34 N h.1 T a0 x1 x2 δ) (fun r => HG true true ad δ r.2) := by
  unfold J_X0_find_34
  exact hj_X0_find_35 L h_T
theorem hj_X0_find_22 {ad : List Nat} {h : hp} (L : Lay TLx ad h) {N : Nat} {T : Nat → Int32 → Int32 → dp → Option (Int32 × dp)} {a0 : Nat} {x1 : Int32} {x2 : Int32} (h_T : ∀ (y0 : Nat) (y1 : Int32) (y2 : Int32) (δ1 : dp), q_K h.1 y0 = 0 → hs (T y0 y1 y2 δ1) (fun r => HG true true ad δ1 r.2)) {δ : dp} : hs (J_X0_find_22 N h.1 T a0 x1 x2 δ) (fun r => HG true true ad δ r.2) := by
  unfold J_X0_find_22
  refine hs_ite (fun _ => ?_) (fun _ => ?_)
  · skip
    exact hj_X0_find_34 L h_T
  · skip
    refine hs_ite (fun _ => ?_) (fun _ => ?_)
    · skip
      exact hj_X0_find_34 L h_T
    · skip
      exact hj_X0_find_35 L h_T
theorem hj_X0_findBehind_98 {ad : List Nat} {h : hp} (L : Lay TLx ad h) {N : Nat} {T : Nat → Int32 → Int32 → dp → Option (Int32 × dp)} {a0 : Nat} {x1 : Int32} {x2 : Int32} {x3 : Int32} {x4 : Int32} {x8v : Int32} (h_T : ∀ (y0 : Nat) (y1 : Int32) (y2 : Int32) (δ1 : dp), q_K h.1 y0 = 0 → hs (T y0 y1 y2 δ1) (fun r => HG true true ad δ1 r.2)) {δ : dp} : hs (J_X0_findBehind_98 N h.1 T a0 x1 x2 x3 x4 x8v δ) (fun r => HG true true ad δ r.2) := by
  unfold J_X0_findBehind_98
  refine hs_gp (fun gk1 => ?_)
  exact hs_some HG_r
theorem hj_X0_findBehind_84 {ad : List Nat} {h : hp} (L : Lay TLx ad h) {N : Nat} {T : Nat → Int32 → Int32 → dp → Option (Int32 × dp)} {a0 : Nat} {x1 : Int32} {x2 : Int32} {x3 : Int32} {x4 : Int32} {x7v : Int32} {x8v : Int32} (k0_a0 : q_K h.1 a0 = 0) (h_T : ∀ (y0 : Nat) (y1 : Int32) (y2 : Int32) (δ1 : dp), q_K h.1 y0 = 0 → hs (T y0 y1 y2 δ1) (fun r => HG true true ad δ1 r.2)) {δ : dp} : hs (J_X0_findBehind_84 N h.1 T a0 x1 x2 x3 x4 x7v x8v δ) (fun r => HG true true ad δ r.2) := by
  unfold J_X0_findBehind_84
  refine hs_ite (fun _ => ?_) (fun _ => ?_)
  · skip
    exact hj_X0_findBehind_98 L h_T
  · skip
    refine hs_ob (fun b_9 hb_9 => ?_)
    refine hs_bind (hf_X3_add L (c3O_0_1 L k0_a0 hb_9)) (fun r_11 u1' => ?_)
    have u1 : HG true true ad δ r_11.2 := u1'
    exact hs_mono (hj_X0_findBehind_98 L h_T) (fun _ hr => u1.t (hr))
theorem hj_X0_findBehind_54 {ad : List Nat} {h : hp} (L : Lay TLx ad h) {N : Nat} {T : Nat → Int32 → Int32 → dp → Option (Int32 × dp)} {a0 : Nat} {x1 : Int32} {x2 : Int32} {x3 : Int32} {x4 : Int32} {xs0 : Int32} {x5v : Int32} {x6v : Int32} (k0_a0 : q_K h.1 a0 = 0) (h_T : ∀ (y0 : Nat) (y1 : Int32) (y2 : Int32) (δ1 : dp), q_K h.1 y0 = 0 → hs (T y0 y1 y2 δ1) (fun r => HG true true ad δ1 r.2)) {δ : dp} : hs (J_X0_findBehind_54 N h.1 T a0 x1 x2 x3 x4 xs0 x5v x6v δ) (fun r => HG true true ad δ r.2) := by
  unfold J_X0_findBehind_54
  refine hs_bind (h_T a0 (x3 - (1 : Int32)) (x4 - x5v) δ k0_a0) (fun r_6 u1' => ?_)
  have u1 : HG true true ad δ r_6.2 := u1'
  refine hs_ite (fun _ => ?_) (fun _ => ?_)
  · skip
    exact hs_mono (hj_X0_findBehind_84 L k0_a0 h_T) (fun _ hr => u1.t (hr))
  · skip
    refine hs_ob (fun b_12 hb_12 => ?_)
    refine hs_bind (hf_X3_remove L (c3O_0_1 L k0_a0 hb_12)) (fun r_14 u2' => ?_)
    have u2 : HG true true ad δ r_14.2 := u1.t (u2')
    exact hs_mono (hj_X0_findBehind_84 L k0_a0 h_T) (fun _ hr => u2.t (hr))
theorem hj_X0_findBehind_53 {ad : List Nat} {h : hp} (L : Lay TLx ad h) {N : Nat} {T : Nat → Int32 → Int32 → dp → Option (Int32 × dp)} {a0 : Nat} {x1 : Int32} {x2 : Int32} {x3 : Int32} {x4 : Int32} {x5v : Int32} {x6v : Int32} (k0_a0 : q_K h.1 a0 = 0) (h_T : ∀ (y0 : Nat) (y1 : Int32) (y2 : Int32) (δ1 : dp), q_K h.1 y0 = 0 → hs (T y0 y1 y2 δ1) (fun r => HG true true ad δ1 r.2)) {δ : dp} : hs (J_X0_findBehind_53 N h.1 T a0 x1 x2 x3 x4 x5v x6v δ) (fun r => HG true true ad δ r.2) := by
  unfold J_X0_findBehind_53
  exact hj_X0_findBehind_54 L k0_a0 h_T
theorem hj_X0_findBehind_31 {ad : List Nat} {h : hp} (L : Lay TLx ad h) {N : Nat} {T : Nat → Int32 → Int32 → dp → Option (Int32 × dp)} {a0 : Nat} {x1 : Int32} {x2 : Int32} {x3 : Int32} {x4 : Int32} {xs0 : Int32} {x5v : Int32} (k0_a0 : q_K h.1 a0 = 0) (h_T : ∀ (y0 : Nat) (y1 : Int32) (y2 : Int32) (δ1 : dp), q_K h.1 y0 = 0 → hs (T y0 y1 y2 δ1) (fun r => HG true true ad δ1 r.2)) {δ : dp} : hs (J_X0_findBehind_31 N h.1 T a0 x1 x2 x3 x4 xs0 x5v δ) (fun r => HG true true ad δ r.2) := by
  unfold J_X0_findBehind_31
  refine hs_ite (fun _ => ?_) (fun _ => ?_)
  · skip
    refine hs_ob (fun b_15 hb_15 => ?_)
    refine hs_bind (hf_X3_remove L (c3O_0_1 L k0_a0 hb_15)) (fun r_17 u1' => ?_)
    have u1 : HG true true ad δ r_17.2 := u1'
    refine hs_ite (fun _ => ?_) (fun _ => ?_)
    · skip
      exact hs_mono (hj_X0_findBehind_53 L k0_a0 h_T) (fun _ hr => u1.t (hr))
    · skip
      exact hs_mono (hj_X0_findBehind_54 L k0_a0 h_T) (fun _ hr => u1.t (hr))
  · skip
    exact hj_X0_findBehind_53 L k0_a0 h_T
theorem hj_X0_findBehind_30 {ad : List Nat} {h : hp} (L : Lay TLx ad h) {N : Nat} {T : Nat → Int32 → Int32 → dp → Option (Int32 × dp)} {a0 : Nat} {x1 : Int32} {x2 : Int32} {x3 : Int32} {x4 : Int32} {x5v : Int32} (k0_a0 : q_K h.1 a0 = 0) (h_T : ∀ (y0 : Nat) (y1 : Int32) (y2 : Int32) (δ1 : dp), q_K h.1 y0 = 0 → hs (T y0 y1 y2 δ1) (fun r => HG true true ad δ1 r.2)) {δ : dp} : hs (J_X0_findBehind_30 N h.1 T a0 x1 x2 x3 x4 x5v δ) (fun r => HG true true ad δ r.2) := by
  unfold J_X0_findBehind_30
  exact hj_X0_findBehind_31 L k0_a0 h_T
theorem hb_X0_findBehind {ad : List Nat} {h : hp} (L : Lay TLx ad h) {N : Nat} {T : Nat → Int32 → Int32 → dp → Option (Int32 × dp)} {a0 : Nat} {x1 : Int32} {x2 : Int32} {x3 : Int32} {x4 : Int32} (k0_a0 : q_K h.1 a0 = 0) (h_T : ∀ (y0 : Nat) (y1 : Int32) (y2 : Int32) (δ1 : dp), q_K h.1 y0 = 0 → hs (T y0 y1 y2 δ1) (fun r => HG true true ad δ1 r.2)) {δ : dp} : hs (B_X0_findBehind N h.1 T a0 x1 x2 x3 x4 δ) (fun r => HG true true ad δ r.2) := by
  unfold B_X0_findBehind
  refine hs_ob (fun b_1 hb_1 => ?_)
  refine hs_bind (hf_X1_touchesOf L) (fun r_3 u1' => ?_)
  have u1 : HG true true ad δ r_3.2 := u1'
  refine hs_ite (fun _ => ?_) (fun _ => ?_)
  · skip
    refine hs_ob (fun b_19 hb_19 => ?_)
    refine hs_bind (hf_X3_add L (c3O_0_1 L k0_a0 hb_19)) (fun r_21 u2' => ?_)
    have u2 : HG true true ad δ r_21.2 := u1.t (u2')
    refine hs_ite (fun _ => ?_) (fun _ => ?_)
    · skip
      exact hs_mono (hj_X0_findBehind_30 L k0_a0 h_T) (fun _ hr => u2.t (hr))
    · skip
      exact hs_mono (hj_X0_findBehind_31 L k0_a0 h_T) (fun _ hr => u2.t (hr))
  · skip
    exact hs_mono (hj_X0_findBehind_30 L k0_a0 h_T) (fun _ hr => u1.t (hr))
theorem hj_X0_find_120 {ad : List Nat} {h : hp} (L : Lay TLx ad h) {N : Nat} {T : Nat → Int32 → Int32 → dp → Option (Int32 × dp)} {a0 : Nat} {x1 : Int32} {x2 : Int32} {kt38 : Int32 → dp → Option (Int32 × dp)} {x3v : Int32} (h_T : ∀ (y0 : Nat) (y1 : Int32) (y2 : Int32) (δ1 : dp), q_K h.1 y0 = 0 → hs (T y0 y1 y2 δ1) (fun r => HG true true ad δ1 r.2)) (h_kt38 : ∀ (y0 : Int32) (δ1 : dp), hs (kt38 y0 δ1) (fun r => HG true true ad δ1 r.2)) {δ : dp} : hs (J_X0_find_120 N h.1 T a0 x1 x2 kt38 x3v δ) (fun r => HG true true ad δ r.2) := by
  unfold J_X0_find_120
  refine hs_biv (fun x_20 _ => ?_)
  exact h_kt38 x_20 δ
theorem hl_X0_find_70 {ad : List Nat} {h : hp} (L : Lay TLx ad h) {N : Nat} {T : Nat → Int32 → Int32 → dp → Option (Int32 × dp)} {a0 : Nat} {x1 : Int32} {x2 : Int32} {kt38 : Int32 → dp → Option (Int32 × dp)} (k0_a0 : q_K h.1 a0 = 0) (h_T : ∀ (y0 : Nat) (y1 : Int32) (y2 : Int32) (δ1 : dp), q_K h.1 y0 = 0 → hs (T y0 y1 y2 δ1) (fun r => HG true true ad δ1 r.2)) (h_kt38 : ∀ (y0 : Int32) (δ1 : dp), hs (kt38 y0 δ1) (fun r => HG true true ad δ1 r.2)) : ∀ (n : Nat) (x3v : Int32) (x4v : Int32) (x5v : Int32) (δ : dp), hs (L_X0_find_70 N h.1 T a0 x1 x2 kt38 n x3v x4v x5v δ) (fun r => HG true true ad δ r.2) := by
  intro n
  induction n with
  | zero => intro x3v x4v x5v δ; unfold L_X0_find_70; exact hs_none
  | succ n ih =>
    intro x3v x4v x5v δ
    unfold L_X0_find_70
    refine hs_ob (fun b_16 hb_16 => ?_)
    refine hs_bind (hf_X5_greatest L) (fun r_18 u1' => ?_)
    have u1 : HG true true ad δ r_18.2 := u1'
    refine hs_ite (fun _ => ?_) (fun _ => ?_)
    · skip
      exact hs_mono (hj_X0_find_120 L h_T h_kt38) (fun _ hr => u1.t (hr))
    · skip
      refine hs_ite (fun _ => ?_) (fun _ => ?_)
      · skip
        exact hs_mono (hj_X0_find_120 L h_T h_kt38) (fun _ hr => u1.t (hr))
      · skip
        refine hs_bind (hb_X0_findBehind L k0_a0 h_T) (fun r_23 u2' => ?_)
        have u2 : HG true true ad δ r_23.2 := u1.t (u2')
        refine hs_ite (fun _ => ?_) (fun _ => ?_)
        · skip
          refine hs_biv (fun x_25 _ => ?_)
          exact hs_mono (ih x3v x4v x_25 r_23.2) (fun _ hr => u2.t (hr))
        · skip
          refine hs_ob (fun b_27 hb_27 => ?_)
          refine hs_gd (fun gz3 => ?_)
          refine hs_bdv (fun δ_29 e4 => ?_)
          have u4 : HG true true ad δ δ_29 := HG.R u2 e4 (nrO_0_5 L k0_a0 hb_27)
          refine hs_gp (fun gk5 => ?_)
          exact hs_some u4
theorem hj_X0_find_65 {ad : List Nat} {h : hp} (L : Lay TLx ad h) {N : Nat} {T : Nat → Int32 → Int32 → dp → Option (Int32 × dp)} {a0 : Nat} {x1 : Int32} {x2 : Int32} {kt38 : Int32 → dp → Option (Int32 × dp)} {xs0 : Int32} {x3v : Int32} (k0_a0 : q_K h.1 a0 = 0) (h_T : ∀ (y0 : Nat) (y1 : Int32) (y2 : Int32) (δ1 : dp), q_K h.1 y0 = 0 → hs (T y0 y1 y2 δ1) (fun r => HG true true ad δ1 r.2)) (h_kt38 : ∀ (y0 : Int32) (δ1 : dp), hs (kt38 y0 δ1) (fun r => HG true true ad δ1 r.2)) {δ : dp} : hs (J_X0_find_65 N h.1 T a0 x1 x2 kt38 xs0 x3v δ) (fun r => HG true true ad δ r.2) := by
  unfold J_X0_find_65
  exact hl_X0_find_70 L k0_a0 h_T h_kt38 N x3v xs0 0 δ
theorem hl_X0_find_38 {ad : List Nat} {h : hp} (L : Lay TLx ad h) {N : Nat} {T : Nat → Int32 → Int32 → dp → Option (Int32 × dp)} {a0 : Nat} {x1 : Int32} {x2 : Int32} (k0_a0 : q_K h.1 a0 = 0) (h_T : ∀ (y0 : Nat) (y1 : Int32) (y2 : Int32) (δ1 : dp), q_K h.1 y0 = 0 → hs (T y0 y1 y2 δ1) (fun r => HG true true ad δ1 r.2)) : ∀ (n : Nat) (x3v : Int32) (δ : dp), hs (L_X0_find_38 N h.1 T a0 x1 x2 n x3v δ) (fun r => HG true true ad δ r.2) := by
  intro n
  induction n with
  | zero => intro x3v δ; unfold L_X0_find_38; exact hs_none
  | succ n ih =>
    intro x3v δ
    unfold L_X0_find_38
    refine hs_ite (fun _ => ?_) (fun _ => ?_)
    · skip
      refine hs_gp (fun gk1 => ?_)
      exact hs_some HG_r
    · skip
      refine hs_ob (fun b_12 hb_12 => ?_)
      refine hs_bind (hf_X0_limitOf L) (fun r_14 u2' => ?_)
      have u2 : HG true true ad δ r_14.2 := u2'
      refine hs_ite (fun _ => ?_) (fun _ => ?_)
      · skip
        exact hs_mono (hj_X0_find_65 L k0_a0 h_T ih) (fun _ hr => u2.t (hr))
      · skip
        exact hs_mono (hj_X0_find_65 L k0_a0 h_T ih) (fun _ hr => u2.t (hr))
theorem hb_X0_find {ad : List Nat} {h : hp} (L : Lay TLx ad h) {N : Nat} {T : Nat → Int32 → Int32 → dp → Option (Int32 × dp)} {a0 : Nat} {x1 : Int32} {x2 : Int32} (k0_a0 : q_K h.1 a0 = 0) (h_T : ∀ (y0 : Nat) (y1 : Int32) (y2 : Int32) (δ1 : dp), q_K h.1 y0 = 0 → hs (T y0 y1 y2 δ1) (fun r => HG true true ad δ1 r.2)) {δ : dp} : hs (B_X0_find N h.1 T a0 x1 x2 δ) (fun r => HG true true ad δ r.2) := by
  unfold B_X0_find
  refine hs_ite (fun _ => ?_) (fun _ => ?_)
  · skip
    exact hj_X0_find_22 L h_T
  · skip
    refine hs_ob (fun b_4 hb_4 => ?_)
    refine hs_gd (fun gz1 => ?_)
    refine hs_ob (fun b_6 hb_6 => ?_)
    refine hs_ob (fun b_8 hb_8 => ?_)
    refine hs_gd (fun gz2 => ?_)
    refine hs_ite (fun _ => ?_) (fun _ => ?_)
    · skip
      exact hl_X0_find_38 L k0_a0 h_T N 0 δ
    · skip
      exact hj_X0_find_22 L h_T
theorem he_X0_find {ad : List Nat} {h : hp} (L : Lay TLx ad h) {N : Nat} : ∀ (k : Nat) (a0 : Nat) (x1 : Int32) (x2 : Int32) (δ : dp), q_K h.1 a0 = 0 → hs (E_X0_find N h.1 k a0 x1 x2 δ) (fun r => HG true true ad δ r.2) := by
  intro k
  induction k with
  | zero => intro a0 x1 x2 δ k0_a0; unfold E_X0_find; exact hs_none
  | succ k ih =>
    intro a0 x1 x2 δ k0_a0
    unfold E_X0_find
    exact hb_X0_find L k0_a0 ih
theorem hf_X0_find {ad : List Nat} {h : hp} (L : Lay TLx ad h) {N : Nat} {a0 : Nat} {x1 : Int32} {x2 : Int32} (k0_a0 : q_K h.1 a0 = 0) {δ : dp} : hs (D_X0_find N h.1 a0 x1 x2 δ) (fun r => HG true true ad δ r.2) := by
  unfold D_X0_find
  exact he_X0_find L 20 a0 x1 x2 δ k0_a0
theorem hj_X0_learn_54 {ad : List Nat} {h : hp} (L : Lay TLx ad h) {N : Nat} {a0 : Nat} {x1 : Int32} {x2v : Int32}  {δ : dp} : hs (J_X0_learn_54 N h.1 a0 x1 x2v δ) (fun r => HG true true ad δ r.2) := by
  unfold J_X0_learn_54
  refine hs_bdv (fun δ_13 e1 => ?_)
  have u1 : HG true true ad δ δ_13 := HG.I HG_r e1 (by decide) (by decide)
  refine hs_bdv (fun δ_15 e2 => ?_)
  have u2 : HG true true ad δ δ_15 := HG.I u1 e2 (by decide) (by decide)
  exact hs_mono (hj_X0_learn_64 L) (fun _ hr => u2.t (hr))
theorem hl_X0_learn_35 {ad : List Nat} {h : hp} (L : Lay TLx ad h) {N : Nat} {a0 : Nat} {x1 : Int32} (k0_a0 : q_K h.1 a0 = 0) : ∀ (n : Nat) (x2v : Int32) (δ : dp), hs (L_X0_learn_35 N h.1 a0 x1 n x2v δ) (fun r => HG true true ad δ r.2) := by
  intro n
  induction n with
  | zero => intro x2v δ; unfold L_X0_learn_35; exact hs_none
  | succ n ih =>
    intro x2v δ
    unfold L_X0_learn_35
    refine hs_ite (fun _ => ?_) (fun _ => ?_)
    · skip
      exact hj_X0_learn_54 L
    · skip
      refine hs_bind (hf_X0_find L k0_a0) (fun r_17 u1' => ?_)
      have u1 : HG true true ad δ r_17.2 := u1'
      refine hs_ite (fun _ => ?_) (fun _ => ?_)
      · skip
        refine hs_biv (fun x_19 _ => ?_)
        exact hs_mono (ih x_19 r_17.2) (fun _ hr => u1.t (hr))
      · skip
        exact hs_mono (hj_X0_learn_54 L) (fun _ hr => u1.t (hr))
theorem hj_X0_learn_11 {ad : List Nat} {h : hp} (L : Lay TLx ad h) {N : Nat} {a0 : Nat} {x1 : Int32} (k0_a0 : q_K h.1 a0 = 0) {δ : dp} : hs (J_X0_learn_11 N h.1 a0 x1 δ) (fun r => HG true true ad δ r.2) := by
  unfold J_X0_learn_11
  refine hs_ite (fun _ => ?_) (fun _ => ?_)
  · skip
    exact hj_X0_learn_64 L
  · skip
    refine hs_ob (fun b_3 hb_3 => ?_)
    refine hs_bind (hf_X3_clear L (c3O_0_1 L k0_a0 hb_3)) (fun r_5 u1' => ?_)
    have u1 : HG true true ad δ r_5 := u1'
    refine hs_ob (fun b_6 hb_6 => ?_)
    refine hs_gd (fun gz2 => ?_)
    refine hs_ob (fun b_8 hb_8 => ?_)
    refine hs_gd (fun gz3 => ?_)
    refine hs_biv (fun x_10 _ => ?_)
    exact hs_mono (hl_X0_learn_35 L k0_a0 N x_10 r_5) (fun _ hr => u1.t (hr))
theorem hf_X0_learn {ad : List Nat} {h : hp} (L : Lay TLx ad h) {N : Nat} {a0 : Nat} {x1 : Int32} (k0_a0 : q_K h.1 a0 = 0) {δ : dp} : hs (D_X0_learn N h.1 a0 x1 δ) (fun r => HG true true ad δ r.2) := by
  unfold D_X0_learn
  refine hs_ite (fun _ => ?_) (fun _ => ?_)
  · skip
    refine hs_bind (hf_X0_setLimits L k0_a0) (fun r_21 u1' => ?_)
    have u1 : HG true true ad δ r_21 := u1'
    exact hs_mono (hj_X0_learn_11 L k0_a0) (fun _ hr => u1.t (hr))
  · skip
    exact hj_X0_learn_11 L k0_a0
theorem hj_X11_row_32 {ad : List Nat} {h : hp} (L : Lay TLx ad h) {N : Nat} {a0 : Nat} {x1 : Int32} {xs0 : Int32} {as1 : Nat} (k11_a0 : q_K h.1 a0 = 11) (k11_as1 : q_K h.1 as1 = 11) {δ : dp} : hs (J_X11_row_32 N h.1 a0 x1 xs0 as1 δ) (fun r => HG true false ad δ r.2) := by
  unfold J_X11_row_32
  refine hs_bxv (hf_X11_need L k11_as1) (fun _ _ u1' => u1') (fun δ_7 u1' => ?_)
  have u1 : HG true false ad δ δ_7 := u1'
  refine hs_ob (fun b_8 hb_8 => ?_)
  refine hs_bind (hf_X0_learn L (kO_11_10 L k11_a0 hb_8)) (fun r_10 u2' => ?_)
  have u2 : HG true false ad δ r_10.2 := u1.t ((u2').w (by decide) (by decide))
  exact hs_some u2
theorem hj_X11_row_31 {ad : List Nat} {h : hp} (L : Lay TLx ad h) {N : Nat} {a0 : Nat} {x1 : Int32} {as0 : Nat} (k11_a0 : q_K h.1 a0 = 11) (k11_as0 : q_K h.1 as0 = 11) {δ : dp} : hs (J_X11_row_31 N h.1 a0 x1 as0 δ) (fun r => HG true false ad δ r.2) := by
  unfold J_X11_row_31
  exact hj_X11_row_32 L k11_a0 k11_as0
theorem hf_X11_row {ad : List Nat} {h : hp} (L : Lay TLx ad h) {N : Nat} {a0 : Nat} {x1 : Int32} (k11_a0 : q_K h.1 a0 = 11) {δ : dp} : hs (D_X11_row N h.1 a0 x1 δ) (fun r => HG true false ad δ r.2) := by
  unfold D_X11_row
  refine hs_ob (fun b_1 hb_1 => ?_)
  refine hs_bind (hf_X5_isSmall L) (fun r_3 u1' => ?_)
  have u1 : HG true false ad δ r_3.2 := (u1').w (by decide) (by decide)
  refine hs_ite (fun _ => ?_) (fun _ => ?_)
  · skip
    exact hs_mono (hj_X11_row_31 L k11_a0 k11_a0) (fun _ hr => u1.t (hr))
  · skip
    refine hs_ite (fun _ => ?_) (fun _ => ?_)
    · skip
      exact hs_mono (hj_X11_row_31 L k11_a0 k11_a0) (fun _ hr => u1.t (hr))
    · skip
      refine hs_ob (fun b_12 hb_12 => ?_)
      refine hs_bind (hf_X5_mostInRows L) (fun r_14 u2' => ?_)
      have u2 : HG true false ad δ r_14.2 := u1.t ((u2').w (by decide) (by decide))
      refine hs_ite (fun _ => ?_) (fun _ => ?_)
      · skip
        exact hs_mono (hj_X11_row_31 L k11_a0 k11_a0) (fun _ hr => u2.t (hr))
      · skip
        exact hs_mono (hj_X11_row_32 L k11_a0 k11_a0) (fun _ hr => u2.t (hr))
theorem hj_X0_callAt_21 {ad : List Nat} {h : hp} (L : Lay TLx ad h) {N : Nat} {a0 : Nat} {x1 : Int32} {x2 : Int32} {xs0 : Int32}  {δ : dp} : hs (J_X0_callAt_21 N h.1 a0 x1 x2 xs0 δ) (fun r => HG true true ad δ r.2) := by
  unfold J_X0_callAt_21
  exact hs_some HG_r
theorem hj_X0_callAt_9 {ad : List Nat} {h : hp} (L : Lay TLx ad h) {N : Nat} {a0 : Nat} {x1 : Int32} {x2 : Int32}  {δ : dp} : hs (J_X0_callAt_9 N h.1 a0 x1 x2 δ) (fun r => HG true true ad δ r.2) := by
  unfold J_X0_callAt_9
  exact hj_X0_callAt_21 L
theorem hf_X0_callAt {ad : List Nat} {h : hp} (L : Lay TLx ad h) {N : Nat} {a0 : Nat} {x1 : Int32} {x2 : Int32}  {δ : dp} : hs (D_X0_callAt N h.1 a0 x1 x2 δ) (fun r => HG true true ad δ r.2) := by
  unfold D_X0_callAt
  refine hs_ite (fun _ => ?_) (fun _ => ?_)
  · skip
    exact hj_X0_callAt_9 L
  · skip
    refine hs_ite (fun _ => ?_) (fun _ => ?_)
    · skip
      refine hs_ob (fun b_3 hb_3 => ?_)
      refine hs_gd (fun gz1 => ?_)
      exact hj_X0_callAt_21 L
    · skip
      exact hj_X0_callAt_9 L
theorem hj_X11_rowCall_32 {ad : List Nat} {h : hp} (L : Lay TLx ad h) {N : Nat} {a0 : Nat} {x1 : Int32} {x2 : Int32} {xs0 : Int32} {as1 : Nat} (k11_a0 : q_K h.1 a0 = 11) (k11_as1 : q_K h.1 as1 = 11) {δ : dp} : hs (J_X11_rowCall_32 N h.1 a0 x1 x2 xs0 as1 δ) (fun r => HG true false ad δ r.2) := by
  unfold J_X11_rowCall_32
  refine hs_bxv (hf_X11_need L k11_as1) (fun _ _ u1' => u1') (fun δ_7 u1' => ?_)
  have u1 : HG true false ad δ δ_7 := u1'
  refine hs_ob (fun b_8 hb_8 => ?_)
  refine hs_bind (hf_X0_learn L (kO_11_10 L k11_a0 hb_8)) (fun r_10 u2' => ?_)
  have u2 : HG true false ad δ r_10.2 := u1.t ((u2').w (by decide) (by decide))
  refine hs_ob (fun b_11 hb_11 => ?_)
  refine hs_bind (hf_X0_callAt L) (fun r_13 u3' => ?_)
  have u3 : HG true false ad δ r_13.2 := u2.t ((u3').w (by decide) (by decide))
  exact hs_some u3
theorem hj_X11_rowCall_31 {ad : List Nat} {h : hp} (L : Lay TLx ad h) {N : Nat} {a0 : Nat} {x1 : Int32} {x2 : Int32} {as0 : Nat} (k11_a0 : q_K h.1 a0 = 11) (k11_as0 : q_K h.1 as0 = 11) {δ : dp} : hs (J_X11_rowCall_31 N h.1 a0 x1 x2 as0 δ) (fun r => HG true false ad δ r.2) := by
  unfold J_X11_rowCall_31
  exact hj_X11_rowCall_32 L k11_a0 k11_as0
theorem hf_X11_rowCall {ad : List Nat} {h : hp} (L : Lay TLx ad h) {N : Nat} {a0 : Nat} {x1 : Int32} {x2 : Int32} (k11_a0 : q_K h.1 a0 = 11) {δ : dp} : hs (D_X11_rowCall N h.1 a0 x1 x2 δ) (fun r => HG true false ad δ r.2) := by
  unfold D_X11_rowCall
  refine hs_ob (fun b_1 hb_1 => ?_)
  refine hs_bind (hf_X5_isSmall L) (fun r_3 u1' => ?_)
  have u1 : HG true false ad δ r_3.2 := (u1').w (by decide) (by decide)
  refine hs_ite (fun _ => ?_) (fun _ => ?_)
  · skip
    exact hs_mono (hj_X11_rowCall_31 L k11_a0 k11_a0) (fun _ hr => u1.t (hr))
  · skip
    refine hs_ite (fun _ => ?_) (fun _ => ?_)
    · skip
      exact hs_mono (hj_X11_rowCall_31 L k11_a0 k11_a0) (fun _ hr => u1.t (hr))
    · skip
      refine hs_ob (fun b_15 hb_15 => ?_)
      refine hs_bind (hf_X5_mostInRows L) (fun r_17 u2' => ?_)
      have u2 : HG true false ad δ r_17.2 := u1.t ((u2').w (by decide) (by decide))
      refine hs_ite (fun _ => ?_) (fun _ => ?_)
      · skip
        exact hs_mono (hj_X11_rowCall_31 L k11_a0 k11_a0) (fun _ hr => u2.t (hr))
      · skip
        exact hs_mono (hj_X11_rowCall_32 L k11_a0 k11_a0) (fun _ hr => u2.t (hr))
theorem hj_X3_widestGap_44 {ad : List Nat} {h : hp} (L : Lay TLx ad h) {N : Nat} {a0 : Nat} {kt6 : Int32 → Int32 → Int32 → dp → Option (Int32 × dp)} {x1v : Int32} {x2v : Int32} {x3v : Int32} (h_kt6 : ∀ (y0 : Int32) (y1 : Int32) (y2 : Int32) (δ1 : dp), hs (kt6 y0 y1 y2 δ1) (fun r => HG true true ad δ1 r.2)) {δ : dp} : hs (J_X3_widestGap_44 N h.1 a0 kt6 x1v x2v x3v δ) (fun r => HG true true ad δ r.2) := by
  unfold J_X3_widestGap_44
  refine hs_biv (fun x_9 _ => ?_)
  exact h_kt6 x1v x2v x_9 δ
theorem hl_X3_widestGap_6 {ad : List Nat} {h : hp} (L : Lay TLx ad h) {N : Nat} {a0 : Nat}  : ∀ (n : Nat) (x1v : Int32) (x2v : Int32) (x3v : Int32) (δ : dp), hs (L_X3_widestGap_6 N h.1 a0 n x1v x2v x3v δ) (fun r => HG true true ad δ r.2) := by
  intro n
  induction n with
  | zero => intro x1v x2v x3v δ; unfold L_X3_widestGap_6; exact hs_none
  | succ n ih =>
    intro x1v x2v x3v δ
    unfold L_X3_widestGap_6
    refine hs_ite (fun _ => ?_) (fun _ => ?_)
    · skip
      exact hs_some HG_r
    · skip
      refine hs_ob (fun b_2 hb_2 => ?_)
      refine hs_gd (fun gz1 => ?_)
      refine hs_ob (fun b_4 hb_4 => ?_)
      refine hs_gd (fun gz2 => ?_)
      refine hs_biv (fun x_6 _ => ?_)
      refine hs_ite (fun _ => ?_) (fun _ => ?_)
      · skip
        exact hj_X3_widestGap_44 L ih
      · skip
        exact hj_X3_widestGap_44 L ih
theorem hf_X3_widestGap {ad : List Nat} {h : hp} (L : Lay TLx ad h) {N : Nat} {a0 : Nat}  {δ : dp} : hs (D_X3_widestGap N h.1 a0 δ) (fun r => HG true true ad δ r.2) := by
  unfold D_X3_widestGap
  exact hl_X3_widestGap_6 L N (-1) 0 0 δ
theorem hj_X11_gap_75 {ad : List Nat} {h : hp} (L : Lay TLx ad h) {N : Nat} {a0 : Nat} {x1 : Int32} {x2 : Int32} {xs0 : Int32}  {δ : dp} : hs (J_X11_gap_75 N h.1 a0 x1 x2 xs0 δ) (fun r => HG true true ad δ r.2) := by
  unfold J_X11_gap_75
  exact hs_some HG_r
theorem hj_X11_gap_20 {ad : List Nat} {h : hp} (L : Lay TLx ad h) {N : Nat} {a0 : Nat} {x1 : Int32} {x2 : Int32} {xs0 : Int32} {as1 : Nat} (k11_as1 : q_K h.1 as1 = 11) {δ : dp} : hs (J_X11_gap_20 N h.1 a0 x1 x2 xs0 as1 δ) (fun r => HG true false ad δ r.2) := by
  unfold J_X11_gap_20
  refine hs_bxv (hf_X11_need L k11_as1) (fun _ _ u1' => u1') (fun δ_7 u1' => ?_)
  have u1 : HG true false ad δ δ_7 := u1'
  refine hs_ob (fun b_8 hb_8 => ?_)
  refine hs_gd (fun gz2 => ?_)
  refine hs_ob (fun b_10 hb_10 => ?_)
  refine hs_ob (fun b_12 hb_12 => ?_)
  refine hs_bind (hf_X3_widestGap L) (fun r_14 u3' => ?_)
  have u3 : HG true false ad δ r_14.2 := u1.t ((u3').w (by decide) (by decide))
  refine hs_ite (fun _ => ?_) (fun _ => ?_)
  · skip
    exact hs_some u3
  · skip
    refine hs_ite (fun _ => ?_) (fun _ => ?_)
    · skip
      refine hs_bind (hf_X3_at L) (fun r_18 u4' => ?_)
      have u4 : HG true false ad δ r_18.2 := u3.t ((u4').w (by decide) (by decide))
      refine hs_bind (hf_X3_at L) (fun r_19 u5' => ?_)
      have u5 : HG true false ad δ r_19.2 := u4.t ((u5').w (by decide) (by decide))
      exact hs_mono (hj_X11_gap_75 L) (fun _ hr => u5.t ((hr).w (by decide) (by decide)))
    · skip
      refine hs_bind (hf_X3_at L) (fun r_17 u6' => ?_)
      have u6 : HG true false ad δ r_17.2 := u3.t ((u6').w (by decide) (by decide))
      exact hs_mono (hj_X11_gap_75 L) (fun _ hr => u6.t ((hr).w (by decide) (by decide)))
theorem hj_X11_gap_15 {ad : List Nat} {h : hp} (L : Lay TLx ad h) {N : Nat} {a0 : Nat} {x1 : Int32} {x2 : Int32} {as0 : Nat} (k11_as0 : q_K h.1 as0 = 11) {δ : dp} : hs (J_X11_gap_15 N h.1 a0 x1 x2 as0 δ) (fun r => HG true false ad δ r.2) := by
  unfold J_X11_gap_15
  exact hj_X11_gap_20 L k11_as0
theorem hf_X11_gap {ad : List Nat} {h : hp} (L : Lay TLx ad h) {N : Nat} {a0 : Nat} {x1 : Int32} {x2 : Int32} (k11_a0 : q_K h.1 a0 = 11) {δ : dp} : hs (D_X11_gap N h.1 a0 x1 x2 δ) (fun r => HG true false ad δ r.2) := by
  unfold D_X11_gap
  refine hs_bxv (hf_X11_needHouse L k11_a0) (fun _ _ u1' => u1') (fun δ_3 u1' => ?_)
  have u1 : HG true false ad δ δ_3 := u1'
  refine hs_ite (fun _ => ?_) (fun _ => ?_)
  · skip
    exact hs_mono (hj_X11_gap_15 L k11_a0) (fun _ hr => u1.t (hr))
  · skip
    refine hs_ite (fun _ => ?_) (fun _ => ?_)
    · skip
      exact hs_mono (hj_X11_gap_15 L k11_a0) (fun _ hr => u1.t (hr))
    · skip
      exact hs_mono (hj_X11_gap_20 L k11_a0) (fun _ hr => u1.t (hr))
theorem hj_X11_seeds_130 {ad : List Nat} {h : hp} (L : Lay TLx ad h) {N : Nat} {a0 : Nat} {x1 : Int32} {x2 : Int32} {x3 : Int32} {x4 : Int32} {x5 : Int32} {kt72 : Int32 → Int32 → Int32 → Int32 → dp → Option ((Int32 ⊕ Nat) × dp)} {x6v : Int32} {x7v : Int32} {x8v : Int32} {x9v : Int32} (h_kt72 : ∀ (y0 : Int32) (y1 : Int32) (y2 : Int32) (y3 : Int32) (δ1 : dp), hs (kt72 y0 y1 y2 y3 δ1) (fun r => HG false true ad δ1 r.2)) {δ : dp} : hs (J_X11_seeds_130 N h.1 a0 x1 x2 x3 x4 x5 kt72 x6v x7v x8v x9v δ) (fun r => HG false true ad δ r.2) := by
  unfold J_X11_seeds_130
  refine hs_biv (fun x_34 _ => ?_)
  exact h_kt72 x6v x7v x8v x_34 δ
theorem hj_X11_seeds_148 {ad : List Nat} {h : hp} (L : Lay TLx ad h) {N : Nat} {a0 : Nat} {x1 : Int32} {x2 : Int32} {x3 : Int32} {x4 : Int32} {x5 : Int32} {xs0 : Int32}  {δ : dp} : hs (J_X11_seeds_148 N h.1 a0 x1 x2 x3 x4 x5 xs0 δ) (fun r => HG true true ad δ r.2) := by
  unfold J_X11_seeds_148
  exact hs_some HG_r
theorem hl_X11_seeds_72 {ad : List Nat} {h : hp} (L : Lay TLx ad h) {N : Nat} {a0 : Nat} {x1 : Int32} {x2 : Int32} {x3 : Int32} {x4 : Int32} {x5 : Int32} (k11_a0 : q_K h.1 a0 = 11) : ∀ (n : Nat) (x6v : Int32) (x7v : Int32) (x8v : Int32) (x9v : Int32) (δ : dp), hs (L_X11_seeds_72 N h.1 a0 x1 x2 x3 x4 x5 n x6v x7v x8v x9v δ) (fun r => HG false true ad δ r.2) := by
  intro n
  induction n with
  | zero => intro x6v x7v x8v x9v δ; unfold L_X11_seeds_72; exact hs_none
  | succ n ih =>
    intro x6v x7v x8v x9v δ
    unfold L_X11_seeds_72
    refine hs_ite (fun _ => ?_) (fun _ => ?_)
    · skip
      refine hs_ite (fun _ => ?_) (fun _ => ?_)
      · skip
        exact hs_mono (hj_X11_seeds_148 L) (fun _ hr => (hr).w (by decide) (by decide))
      · skip
        exact hs_mono (hj_X11_seeds_148 L) (fun _ hr => (hr).w (by decide) (by decide))
    · skip
      refine hs_ob (fun b_18 hb_18 => ?_)
      refine hs_ob (fun b_20 hb_20 => ?_)
      refine hs_gd (fun gz1 => ?_)
      refine hs_ob (fun b_22 hb_22 => ?_)
      refine hs_ob (fun b_24 hb_24 => ?_)
      refine hs_gd (fun gz2 => ?_)
      refine hs_ob (fun b_26 hb_26 => ?_)
      refine hs_ob (fun b_28 hb_28 => ?_)
      refine hs_bind (hf_X4_go L (kO_11_8 L k11_a0 hb_18)) (fun r_30 u3' => ?_)
      have u3 : HG false true ad δ r_30 := u3'
      refine hs_ob (fun b_31 hb_31 => ?_)
      refine hs_ite (fun _ => ?_) (fun _ => ?_)
      · skip
        exact hs_mono (hj_X11_seeds_130 L ih) (fun _ hr => u3.t (hr))
      · skip
        refine hs_ob (fun b_36 hb_36 => ?_)
        refine hs_biv (fun x_38 _ => ?_)
        exact hs_mono (hj_X11_seeds_130 L ih) (fun _ hr => u3.t (hr))
theorem hj_X11_seeds_67 {ad : List Nat} {h : hp} (L : Lay TLx ad h) {N : Nat} {a0 : Nat} {x1 : Int32} {x2 : Int32} {x3 : Int32} {x4 : Int32} {x5 : Int32} {xs0 : Int32} {x6v : Int32} {x7v : Int32} (k11_a0 : q_K h.1 a0 = 11) {δ : dp} : hs (J_X11_seeds_67 N h.1 a0 x1 x2 x3 x4 x5 xs0 x6v x7v δ) (fun r => HG false true ad δ r.2) := by
  unfold J_X11_seeds_67
  exact hl_X11_seeds_72 L k11_a0 N x6v x7v xs0 0 δ
theorem hj_X11_seeds_40 {ad : List Nat} {h : hp} (L : Lay TLx ad h) {N : Nat} {a0 : Nat} {x1 : Int32} {x2 : Int32} {x3 : Int32} {x4 : Int32} {x5 : Int32} {xs0 : Int32} {as1 : Nat} (k11_a0 : q_K h.1 a0 = 11) (k11_as1 : q_K h.1 as1 = 11) {δ : dp} : hs (J_X11_seeds_40 N h.1 a0 x1 x2 x3 x4 x5 xs0 as1 δ) (fun r => HG false false ad δ r.2) := by
  unfold J_X11_seeds_40
  refine hs_bxv (hf_X11_need L k11_as1) (fun _ _ u1' => (u1').w (by decide) (by decide)) (fun δ_10 u1' => ?_)
  have u1 : HG false false ad δ δ_10 := (u1').w (by decide) (by decide)
  refine hs_ob (fun b_11 hb_11 => ?_)
  refine hs_gd (fun gz2 => ?_)
  refine hs_ob (fun b_13 hb_13 => ?_)
  refine hs_ite (fun _ => ?_) (fun _ => ?_)
  · skip
    exact hs_mono (hj_X11_seeds_67 L k11_a0) (fun _ hr => u1.t ((hr).w (by decide) (by decide)))
  · skip
    exact hs_mono (hj_X11_seeds_67 L k11_a0) (fun _ hr => u1.t ((hr).w (by decide) (by decide)))
theorem hj_X11_seeds_35 {ad : List Nat} {h : hp} (L : Lay TLx ad h) {N : Nat} {a0 : Nat} {x1 : Int32} {x2 : Int32} {x3 : Int32} {x4 : Int32} {x5 : Int32} {as0 : Nat} (k11_a0 : q_K h.1 a0 = 11) (k11_as0 : q_K h.1 as0 = 11) {δ : dp} : hs (J_X11_seeds_35 N h.1 a0 x1 x2 x3 x4 x5 as0 δ) (fun r => HG false false ad δ r.2) := by
  unfold J_X11_seeds_35
  exact hj_X11_seeds_40 L k11_a0 k11_as0
theorem hj_X11_seeds_39 {ad : List Nat} {h : hp} (L : Lay TLx ad h) {N : Nat} {a0 : Nat} {x1 : Int32} {x2 : Int32} {x3 : Int32} {x4 : Int32} {x5 : Int32} {as0 : Nat} (k11_a0 : q_K h.1 a0 = 11) (k11_as0 : q_K h.1 as0 = 11) {δ : dp} : hs (J_X11_seeds_39 N h.1 a0 x1 x2 x3 x4 x5 as0 δ) (fun r => HG false false ad δ r.2) := by
  unfold J_X11_seeds_39
  exact hj_X11_seeds_40 L k11_a0 k11_as0
theorem hf_X11_seeds {ad : List Nat} {h : hp} (L : Lay TLx ad h) {N : Nat} {a0 : Nat} {x1 : Int32} {x2 : Int32} {x3 : Int32} {x4 : Int32} {x5 : Int32} (k11_a0 : q_K h.1 a0 = 11) {δ : dp} : hs (D_X11_seeds N h.1 a0 x1 x2 x3 x4 x5 δ) (fun r => HG false false ad δ r.2) := by
  unfold D_X11_seeds
  refine hs_bxv (hf_X11_needHouse L k11_a0) (fun _ _ u1' => (u1').w (by decide) (by decide)) (fun δ_3 u1' => ?_)
  have u1 : HG false false ad δ δ_3 := (u1').w (by decide) (by decide)
  refine hs_bxv (hf_X11_needThief L k11_a0) (fun _ _ u2' => u1.t ((u2').w (by decide) (by decide))) (fun δ_6 u2' => ?_)
  have u2 : HG false false ad δ δ_6 := u1.t ((u2').w (by decide) (by decide))
  refine hs_ite (fun _ => ?_) (fun _ => ?_)
  · skip
    exact hs_mono (hj_X11_seeds_39 L k11_a0 k11_a0) (fun _ hr => u2.t (hr))
  · skip
    refine hs_ite (fun _ => ?_) (fun _ => ?_)
    · skip
      exact hs_mono (hj_X11_seeds_39 L k11_a0 k11_a0) (fun _ hr => u2.t (hr))
    · skip
      refine hs_ite (fun _ => ?_) (fun _ => ?_)
      · skip
        exact hs_mono (hj_X11_seeds_35 L k11_a0 k11_a0) (fun _ hr => u2.t (hr))
      · skip
        refine hs_ite (fun _ => ?_) (fun _ => ?_)
        · skip
          exact hs_mono (hj_X11_seeds_35 L k11_a0 k11_a0) (fun _ hr => u2.t (hr))
        · skip
          exact hs_mono (hj_X11_seeds_39 L k11_a0 k11_a0) (fun _ hr => u2.t (hr))
theorem hj_X7_isSound_12 {ad : List Nat} {h : hp} (L : Lay TLx ad h) {N : Nat} {a0 : Nat} {xs0 : Int32}  {δ : dp} : hs (J_X7_isSound_12 N h.1 a0 xs0 δ) (fun r => HG true true ad δ r.2) := by
  unfold J_X7_isSound_12
  refine hs_gp (fun gk1 => ?_)
  exact hs_some HG_r
theorem hf_X7_isSound {ad : List Nat} {h : hp} (L : Lay TLx ad h) {N : Nat} {a0 : Nat}  {δ : dp} : hs (D_X7_isSound N h.1 a0 δ) (fun r => HG true true ad δ r.2) := by
  unfold D_X7_isSound
  refine hs_ite (fun _ => ?_) (fun _ => ?_)
  · skip
    exact hj_X7_isSound_12 L
  · skip
    exact hj_X7_isSound_12 L
theorem hf_X7_open {ad : List Nat} {h : hp} (L : Lay TLx ad h) {N : Nat} {a0 : Nat} {x1 : Int32}  {δ : dp} : hs (D_X7_open N h.1 a0 x1 δ) (fun r => HG true true ad δ r) := by
  unfold D_X7_open
  refine hs_bdv (fun δ_1 e1 => ?_)
  have u1 : HG true true ad δ δ_1 := HG.I HG_r e1 (by decide) (by decide)
  refine hs_bdv (fun δ_3 e2 => ?_)
  have u2 : HG true true ad δ δ_3 := HG.I u1 e2 (by decide) (by decide)
  refine hs_bdv (fun δ_5 e3 => ?_)
  have u3 : HG true true ad δ δ_5 := HG.I u2 e3 (by decide) (by decide)
  refine hs_bdv (fun δ_7 e4 => ?_)
  have u4 : HG true true ad δ δ_7 := HG.I u3 e4 (by decide) (by decide)
  refine hs_bdv (fun δ_9 e5 => ?_)
  have u5 : HG true true ad δ δ_9 := HG.I u4 e5 (by decide) (by decide)
  exact hs_some u5
theorem hf_X8_clear {ad : List Nat} {h : hp} (L : Lay TLx ad h) {N : Nat} {a0 : Nat}  {δ : dp} : hs (D_X8_clear N h.1 a0 δ) (fun r => HG true true ad δ r) := by
  unfold D_X8_clear
  refine hs_bdv (fun δ_1 e1 => ?_)
  have u1 : HG true true ad δ δ_1 := HG.I HG_r e1 (by decide) (by decide)
  refine hs_bdv (fun δ_3 e2 => ?_)
  have u2 : HG true true ad δ δ_3 := HG.I u1 e2 (by decide) (by decide)
  exact hs_some u2
theorem hj_X7_ahead_70 {ad : List Nat} {h : hp} (L : Lay TLx ad h) {N : Nat} {a0 : Nat} {xs0 : Int32}  {δ : dp} : hs (J_X7_ahead_70 N h.1 a0 xs0 δ) (fun r => HG true true ad δ r.2) := by
  unfold J_X7_ahead_70
  exact hs_some HG_r
theorem hj_X7_ahead_38 {ad : List Nat} {h : hp} (L : Lay TLx ad h) {N : Nat} {a0 : Nat}  {δ : dp} : hs (J_X7_ahead_38 N h.1 a0 δ) (fun r => HG true true ad δ r.2) := by
  unfold J_X7_ahead_38
  refine hs_bdv (fun δ_2 e1 => ?_)
  have u1 : HG true true ad δ δ_2 := HG.I HG_r e1 (by decide) (by decide)
  refine hs_ite (fun _ => ?_) (fun _ => ?_)
  · skip
    exact hs_mono (hj_X7_ahead_70 L) (fun _ hr => u1.t (hr))
  · skip
    refine hs_ob (fun b_5 hb_5 => ?_)
    refine hs_gd (fun gz2 => ?_)
    exact hs_mono (hj_X7_ahead_70 L) (fun _ hr => u1.t (hr))
theorem hl_X7_ahead_0 {ad : List Nat} {h : hp} (L : Lay TLx ad h) {N : Nat} {a0 : Nat}  : ∀ (n : Nat) (δ : dp), hs (L_X7_ahead_0 N h.1 a0 n δ) (fun r => HG true true ad δ r.2) := by
  intro n
  induction n with
  | zero => intro δ; unfold L_X7_ahead_0; exact hs_none
  | succ n ih =>
    intro δ
    unfold L_X7_ahead_0
    refine hs_ite (fun _ => ?_) (fun _ => ?_)
    · skip
      exact hj_X7_ahead_38 L
    · skip
      refine hs_ob (fun b_7 hb_7 => ?_)
      refine hs_gd (fun gz1 => ?_)
      refine hs_ite (fun _ => ?_) (fun _ => ?_)
      · skip
        refine hs_bdv (fun δ_10 e2 => ?_)
        have u2 : HG true true ad δ δ_10 := HG.I HG_r e2 (by decide) (by decide)
        exact hs_mono (ih δ_10) (fun _ hr => u2.t (hr))
      · skip
        exact hj_X7_ahead_38 L
theorem hf_X7_ahead {ad : List Nat} {h : hp} (L : Lay TLx ad h) {N : Nat} {a0 : Nat}  {δ : dp} : hs (D_X7_ahead N h.1 a0 δ) (fun r => HG true true ad δ r.2) := by
  unfold D_X7_ahead
  exact hl_X7_ahead_0 L N δ
theorem hj_X9_isOver_23 {ad : List Nat} {h : hp} (L : Lay TLx ad h) {N : Nat} {a0 : Nat} {xs0 : Int32}  {δ : dp} : hs (J_X9_isOver_23 N h.1 a0 xs0 δ) (fun r => HG true true ad δ r.2) := by
  unfold J_X9_isOver_23
  refine hs_gp (fun gk1 => ?_)
  exact hs_some HG_r
theorem hj_X9_isOver_22 {ad : List Nat} {h : hp} (L : Lay TLx ad h) {N : Nat} {a0 : Nat}  {δ : dp} : hs (J_X9_isOver_22 N h.1 a0 δ) (fun r => HG true true ad δ r.2) := by
  unfold J_X9_isOver_22
  exact hj_X9_isOver_23 L
theorem hf_X9_isOver {ad : List Nat} {h : hp} (L : Lay TLx ad h) {N : Nat} {a0 : Nat}  {δ : dp} : hs (D_X9_isOver N h.1 a0 δ) (fun r => HG true true ad δ r.2) := by
  unfold D_X9_isOver
  refine hs_ite (fun _ => ?_) (fun _ => ?_)
  · skip
    refine hs_ob (fun b_2 hb_2 => ?_)
    refine hs_gp (fun gk1 => ?_)
    refine hs_bind (hf_X7_ahead L) (fun r_5 u2' => ?_)
    have u2 : HG true true ad δ r_5.2 := u2'
    refine hs_ite (fun _ => ?_) (fun _ => ?_)
    · skip
      exact hs_mono (hj_X9_isOver_23 L) (fun _ hr => u2.t (hr))
    · skip
      exact hs_mono (hj_X9_isOver_22 L) (fun _ hr => u2.t (hr))
  · skip
    exact hj_X9_isOver_22 L
theorem hj_X7_takeSign_28 {ad : List Nat} {h : hp} (L : Lay TLx ad h) {N : Nat} {a0 : Nat} {x1 : Int32} {x2v : Int32}  {δ : dp} : hs (J_X7_takeSign_28 N h.1 a0 x1 x2v δ) (fun r => HG true true ad δ r.2) := by
  unfold J_X7_takeSign_28
  refine hs_gp (fun gk1 => ?_)
  exact hs_some HG_r
theorem hj_X7_takeSign_13 {ad : List Nat} {h : hp} (L : Lay TLx ad h) {N : Nat} {a0 : Nat} {x1 : Int32} {xs0 : Int32}  {δ : dp} : hs (J_X7_takeSign_13 N h.1 a0 x1 xs0 δ) (fun r => HG true true ad δ r.2) := by
  unfold J_X7_takeSign_13
  refine hs_ite (fun _ => ?_) (fun _ => ?_)
  · skip
    exact hj_X7_takeSign_28 L
  · skip
    refine hs_bdv (fun δ_4 e1 => ?_)
    have u1 : HG true true ad δ δ_4 := HG.I HG_r e1 (by decide) (by decide)
    exact hs_mono (hj_X7_takeSign_28 L) (fun _ hr => u1.t (hr))
theorem hf_X7_takeSign {ad : List Nat} {h : hp} (L : Lay TLx ad h) {N : Nat} {a0 : Nat} {x1 : Int32}  {δ : dp} : hs (D_X7_takeSign N h.1 a0 x1 δ) (fun r => HG true true ad δ r.2) := by
  unfold D_X7_takeSign
  refine hs_bind (hf_X7_ahead L) (fun r_1 u1' => ?_)
  have u1 : HG true true ad δ r_1.2 := u1'
  refine hs_ite (fun _ => ?_) (fun _ => ?_)
  · skip
    exact hs_mono (hj_X7_takeSign_13 L) (fun _ hr => u1.t (hr))
  · skip
    exact hs_mono (hj_X7_takeSign_13 L) (fun _ hr => u1.t (hr))
theorem hj_X8_add_58 {ad : List Nat} {h : hp} (L : Lay TLx ad h) {N : Nat} {a0 : Nat} {x1 : Int32} {x2 : Int32} {xs0 : Int32} {as1 : Nat}  {δ : dp} : hs (J_X8_add_58 N h.1 a0 x1 x2 xs0 as1 δ) (fun r => HG true true ad δ r) := by
  unfold J_X8_add_58
  refine hs_gp (fun gk1 => ?_)
  refine hs_bdv (fun δ_3 e2 => ?_)
  have u2 : HG true true ad δ δ_3 := HG.I HG_r e2 (by decide) (by decide)
  exact hs_some u2
theorem hj_X8_add_53 {ad : List Nat} {h : hp} (L : Lay TLx ad h) {N : Nat} {a0 : Nat} {x1 : Int32} {x2 : Int32} {as0 : Nat}  {δ : dp} : hs (J_X8_add_53 N h.1 a0 x1 x2 as0 δ) (fun r => HG true true ad δ r) := by
  unfold J_X8_add_53
  exact hj_X8_add_58 L
theorem hj_X8_add_40 {ad : List Nat} {h : hp} (L : Lay TLx ad h) {N : Nat} {a0 : Nat} {x1 : Int32} {x2 : Int32}  {δ : dp} : hs (J_X8_add_40 N h.1 a0 x1 x2 δ) (fun r => HG true true ad δ r) := by
  unfold J_X8_add_40
  refine hs_ite (fun _ => ?_) (fun _ => ?_)
  · skip
    refine hs_ite (fun _ => ?_) (fun _ => ?_)
    · skip
      exact hj_X8_add_53 L
    · skip
      exact hj_X8_add_58 L
  · skip
    exact hj_X8_add_53 L
theorem hf_X8_add {ad : List Nat} {h : hp} (L : Lay TLx ad h) {N : Nat} {a0 : Nat} {x1 : Int32} {x2 : Int32} (k8_a0 : q_K h.1 a0 = 8) {δ : dp} : hs (D_X8_add N h.1 a0 x1 x2 δ) (fun r => HG true true ad δ r) := by
  unfold D_X8_add
  refine hs_ite (fun _ => ?_) (fun _ => ?_)
  · skip
    exact hj_X8_add_40 L
  · skip
    refine hs_ob (fun b_7 hb_7 => ?_)
    refine hs_gd (fun gz1 => ?_)
    refine hs_bdv (fun δ_9 e2 => ?_)
    have u2 : HG true true ad δ δ_9 := HG.R HG_r e2 (nrO_8_0 L k8_a0 hb_7)
    refine hs_ob (fun b_11 hb_11 => ?_)
    refine hs_gd (fun gz3 => ?_)
    refine hs_bdv (fun δ_13 e4 => ?_)
    have u4 : HG true true ad δ δ_13 := HG.R u2 e4 (nrO_8_1 L k8_a0 hb_11)
    refine hs_bdv (fun δ_15 e5 => ?_)
    have u5 : HG true true ad δ δ_15 := HG.I u4 e5 (by decide) (by decide)
    exact hs_mono (hj_X8_add_40 L) (fun _ hr => u5.t (hr))
theorem hj_X9_closeLoop_63 {ad : List Nat} {h : hp} (L : Lay TLx ad h) {N : Nat} {a0 : Nat}  {δ : dp} : hs (J_X9_closeLoop_63 N h.1 a0 δ) (fun r => HG true true ad δ r) := by
  unfold J_X9_closeLoop_63
  exact hs_some HG_r
theorem hf_X9_closeLoop {ad : List Nat} {h : hp} (L : Lay TLx ad h) {N : Nat} {a0 : Nat}  {δ : dp} : hs (D_X9_closeLoop N h.1 a0 δ) (fun r => HG true true ad δ r) := by
  unfold D_X9_closeLoop
  refine hs_bdv (fun δ_1 e1 => ?_)
  have u1 : HG true true ad δ δ_1 := HG.I HG_r e1 (by decide) (by decide)
  refine hs_ob (fun b_3 hb_3 => ?_)
  refine hs_gd (fun gz2 => ?_)
  refine hs_ite (fun _ => ?_) (fun _ => ?_)
  · skip
    refine hs_ob (fun b_12 hb_12 => ?_)
    refine hs_gp (fun gk3 => ?_)
    refine hs_ob (fun b_15 hb_15 => ?_)
    refine hs_gd (fun gz4 => ?_)
    refine hs_bdv (fun δ_17 e5 => ?_)
    have u5 : HG true true ad δ δ_17 := HG.I u1 e5 (by decide) (by decide)
    exact hs_mono (hj_X9_closeLoop_63 L) (fun _ hr => u5.t (hr))
  · skip
    refine hs_ob (fun b_6 hb_6 => ?_)
    refine hs_gp (fun gk6 => ?_)
    refine hs_ob (fun b_9 hb_9 => ?_)
    refine hs_gd (fun gz7 => ?_)
    refine hs_bind (hf_X8_add L gk6) (fun r_11 u8' => ?_)
    have u8 : HG true true ad δ r_11 := u1.t (u8')
    exact hs_mono (hj_X9_closeLoop_63 L) (fun _ hr => u8.t (hr))
theorem hj_X7_readWord_57 {ad : List Nat} {h : hp} (L : Lay TLx ad h) {N : Nat} {a0 : Nat}  {δ : dp} : hs (J_X7_readWord_57 N h.1 a0 δ) (fun r => HG true true ad δ r) := by
  unfold J_X7_readWord_57
  exact hs_some HG_r
theorem hl_X7_readWord_5 {ad : List Nat} {h : hp} (L : Lay TLx ad h) {N : Nat} {a0 : Nat}  : ∀ (n : Nat) (δ : dp), hs (L_X7_readWord_5 N h.1 a0 n δ) (fun r => HG true true ad δ r) := by
  intro n
  induction n with
  | zero => intro δ; unfold L_X7_readWord_5; exact hs_none
  | succ n ih =>
    intro δ
    unfold L_X7_readWord_5
    refine hs_ite (fun _ => ?_) (fun _ => ?_)
    · skip
      exact hj_X7_readWord_57 L
    · skip
      refine hs_ob (fun b_3 hb_3 => ?_)
      refine hs_gd (fun gz1 => ?_)
      refine hs_ite (fun _ => ?_) (fun _ => ?_)
      · skip
        exact hj_X7_readWord_57 L
      · skip
        refine hs_ob (fun b_6 hb_6 => ?_)
        refine hs_gd (fun gz2 => ?_)
        refine hs_ite (fun _ => ?_) (fun _ => ?_)
        · skip
          exact hj_X7_readWord_57 L
        · skip
          refine hs_bdv (fun δ_9 e3 => ?_)
          have u3 : HG true true ad δ δ_9 := HG.I HG_r e3 (by decide) (by decide)
          exact hs_mono (ih δ_9) (fun _ hr => u3.t (hr))
theorem hf_X7_readWord {ad : List Nat} {h : hp} (L : Lay TLx ad h) {N : Nat} {a0 : Nat}  {δ : dp} : hs (D_X7_readWord N h.1 a0 δ) (fun r => HG true true ad δ r) := by
  unfold D_X7_readWord
  refine hs_bind (hf_X7_ahead L) (fun r_1 u1' => ?_)
  have u1 : HG true true ad δ r_1.2 := u1'
  exact hs_mono (hl_X7_readWord_5 L N r_1.2) (fun _ hr => u1.t (hr))
theorem hj_X7_refuse_20 {ad : List Nat} {h : hp} (L : Lay TLx ad h) {N : Nat} {a0 : Nat} {x1 : Int32}  {δ : dp} : hs (J_X7_refuse_20 N h.1 a0 x1 δ) (fun r => HG true true ad δ r) := by
  unfold J_X7_refuse_20
  exact hs_some HG_r
theorem hf_X7_refuse {ad : List Nat} {h : hp} (L : Lay TLx ad h) {N : Nat} {a0 : Nat} {x1 : Int32}  {δ : dp} : hs (D_X7_refuse N h.1 a0 x1 δ) (fun r => HG true true ad δ r) := by
  unfold D_X7_refuse
  refine hs_ite (fun _ => ?_) (fun _ => ?_)
  · skip
    refine hs_bdv (fun δ_2 e1 => ?_)
    have u1 : HG true true ad δ δ_2 := HG.I HG_r e1 (by decide) (by decide)
    refine hs_bdv (fun δ_4 e2 => ?_)
    have u2 : HG true true ad δ δ_4 := HG.I u1 e2 (by decide) (by decide)
    exact hs_mono (hj_X7_refuse_20 L) (fun _ hr => u2.t (hr))
  · skip
    exact hj_X7_refuse_20 L
theorem hj_J0_coder_7d493_14 {ad : List Nat} {h : hp} (L : Lay TLx ad h) {N : Nat} {a0 : Nat} {xs0 : Int32}  {δ : dp} : hs (J_J0_coder_7d493_14 N h.1 a0 xs0 δ) (fun r => HG true true ad δ r.2) := by
  unfold J_J0_coder_7d493_14
  refine hs_gp (fun gk1 => ?_)
  exact hs_some HG_r
theorem hf_J0_coder_7d493 {ad : List Nat} {h : hp} (L : Lay TLx ad h) {N : Nat} {a0 : Nat}  {δ : dp} : hs (D_J0_coder_7d493 N h.1 a0 δ) (fun r => HG true true ad δ r.2) := by
  unfold D_J0_coder_7d493
  refine hs_ite (fun _ => ?_) (fun _ => ?_)
  · skip
    exact hj_J0_coder_7d493_14 L
  · skip
    exact hj_J0_coder_7d493_14 L
theorem hf_J0_length_8abf5 {ad : List Nat} {h : hp} (L : Lay TLx ad h) {N : Nat} {a0 : Nat}  {δ : dp} : hs (D_J0_length_8abf5 N h.1 a0 δ) (fun r => HG true true ad δ r.2) := by
  unfold D_J0_length_8abf5
  refine hs_bind (hf_J0_coder_7d493 L) (fun r_1 u1' => ?_)
  have u1 : HG true true ad δ r_1.2 := u1'
  exact hs_some u1
theorem hj_J0_isLatin1_aae02_18 {ad : List Nat} {h : hp} (L : Lay TLx ad h) {N : Nat} {a0 : Nat} {xs0 : Int32}  {δ : dp} : hs (J_J0_isLatin1_aae02_18 N h.1 a0 xs0 δ) (fun r => HG true true ad δ r.2) := by
  unfold J_J0_isLatin1_aae02_18
  refine hs_gp (fun gk1 => ?_)
  exact hs_some HG_r
theorem hj_J0_isLatin1_aae02_17 {ad : List Nat} {h : hp} (L : Lay TLx ad h) {N : Nat} {a0 : Nat}  {δ : dp} : hs (J_J0_isLatin1_aae02_17 N h.1 a0 δ) (fun r => HG true true ad δ r.2) := by
  unfold J_J0_isLatin1_aae02_17
  exact hj_J0_isLatin1_aae02_18 L
theorem hf_J0_isLatin1_aae02 {ad : List Nat} {h : hp} (L : Lay TLx ad h) {N : Nat} {a0 : Nat}  {δ : dp} : hs (D_J0_isLatin1_aae02 N h.1 a0 δ) (fun r => HG true true ad δ r.2) := by
  unfold D_J0_isLatin1_aae02
  refine hs_ite (fun _ => ?_) (fun _ => ?_)
  · skip
    exact hj_J0_isLatin1_aae02_17 L
  · skip
    refine hs_ite (fun _ => ?_) (fun _ => ?_)
    · skip
      exact hj_J0_isLatin1_aae02_18 L
    · skip
      exact hj_J0_isLatin1_aae02_17 L
theorem hf_J3_checkIndex_8e157 {ad : List Nat} {h : hp} (L : Lay TLx ad h) {N : Nat} {x0 : Int32} {x1 : Int32}  {δ : dp} : hs (D_J3_checkIndex_8e157 N h.1 x0 x1 δ) (fun r => HG true true ad δ r.2) := by
  unfold D_J3_checkIndex_8e157
  refine hs_gd (fun gz1 => ?_)
  refine hs_gp (fun gk2 => ?_)
  exact hs_some HG_r
theorem hf_J0_checkIndex_df160 {ad : List Nat} {h : hp} (L : Lay TLx ad h) {N : Nat} {x0 : Int32} {x1 : Int32}  {δ : dp} : hs (D_J0_checkIndex_df160 N h.1 x0 x1 δ) (fun r => HG true true ad δ r) := by
  unfold D_J0_checkIndex_df160
  refine hs_bind (hf_J3_checkIndex_8e157 L) (fun r_2 u1' => ?_)
  have u1 : HG true true ad δ r_2.2 := u1'
  exact hs_some u1
theorem hf_J1_charAt_3b067 {ad : List Nat} {h : hp} (L : Lay TLx ad h) {N : Nat} {a0 : Nat} {x1 : Int32}  {δ : dp} : hs (D_J1_charAt_3b067 N h.1 a0 x1 δ) (fun r => HG true true ad δ r.2) := by
  unfold D_J1_charAt_3b067
  refine hs_bind (hf_J0_checkIndex_df160 L) (fun r_1 u1' => ?_)
  have u1 : HG true true ad δ r_1 := u1'
  refine hs_gd (fun gz2 => ?_)
  refine hs_gp (fun gk3 => ?_)
  exact hs_some u1
theorem hf_J0_charAt_5068e {ad : List Nat} {h : hp} (L : Lay TLx ad h) {N : Nat} {a0 : Nat} {x1 : Int32}  {δ : dp} : hs (D_J0_charAt_5068e N h.1 a0 x1 δ) (fun r => HG true true ad δ r.2) := by
  unfold D_J0_charAt_5068e
  refine hs_bind (hf_J0_isLatin1_aae02 L) (fun r_1 u1' => ?_)
  have u1 : HG true true ad δ r_1.2 := u1'
  refine hs_gd (fun gz2 => ?_)
  refine hs_bind (hf_J1_charAt_3b067 L) (fun r_3 u3' => ?_)
  have u3 : HG true true ad δ r_3.2 := u1.t (u3')
  refine hs_gp (fun gk4 => ?_)
  exact hs_some u3
theorem hl_X7_wordIs_20 {ad : List Nat} {h : hp} (L : Lay TLx ad h) {N : Nat} {a0 : Nat} {a1 : Nat}  : ∀ (n : Nat) (x2v : Int32) (δ : dp), hs (L_X7_wordIs_20 N h.1 a0 a1 n x2v δ) (fun r => HG true true ad δ r.2) := by
  intro n
  induction n with
  | zero => intro x2v δ; unfold L_X7_wordIs_20; exact hs_none
  | succ n ih =>
    intro x2v δ
    unfold L_X7_wordIs_20
    refine hs_bind (hf_J0_length_8abf5 L) (fun r_3 u1' => ?_)
    have u1 : HG true true ad δ r_3.2 := u1'
    refine hs_ite (fun _ => ?_) (fun _ => ?_)
    · skip
      refine hs_gp (fun gk2 => ?_)
      exact hs_some u1
    · skip
      refine hs_ob (fun b_5 hb_5 => ?_)
      refine hs_gd (fun gz3 => ?_)
      refine hs_bind (hf_J0_charAt_5068e L) (fun r_7 u4' => ?_)
      have u4 : HG true true ad δ r_7.2 := u1.t (u4')
      refine hs_ite (fun _ => ?_) (fun _ => ?_)
      · skip
        refine hs_biv (fun x_9 _ => ?_)
        exact hs_mono (ih x_9 r_7.2) (fun _ hr => u4.t (hr))
      · skip
        refine hs_gp (fun gk5 => ?_)
        exact hs_some u4
theorem hf_X7_wordIs {ad : List Nat} {h : hp} (L : Lay TLx ad h) {N : Nat} {a0 : Nat} {a1 : Nat}  {δ : dp} : hs (D_X7_wordIs N h.1 a0 a1 δ) (fun r => HG true true ad δ r.2) := by
  unfold D_X7_wordIs
  refine hs_bind (hf_J0_length_8abf5 L) (fun r_1 u1' => ?_)
  have u1 : HG true true ad δ r_1.2 := u1'
  refine hs_ite (fun _ => ?_) (fun _ => ?_)
  · skip
    exact hs_mono (hl_X7_wordIs_20 L N 0 r_1.2) (fun _ hr => u1.t (hr))
  · skip
    refine hs_gp (fun gk2 => ?_)
    exact hs_some u1
theorem hj_X9_callOfWord_73 {ad : List Nat} {h : hp} (L : Lay TLx ad h) {N : Nat} {a0 : Nat} {xs0 : Int32}  {δ : dp} : hs (J_X9_callOfWord_73 N h.1 a0 xs0 δ) (fun r => HG true true ad δ r.2) := by
  unfold J_X9_callOfWord_73
  exact hs_some HG_r
theorem hf_X9_callOfWord {ad : List Nat} {h : hp} (L : Lay TLx ad h) {N : Nat} {a0 : Nat}  {δ : dp} : hs (D_X9_callOfWord N h.1 a0 δ) (fun r => HG true true ad δ r.2) := by
  unfold D_X9_callOfWord
  refine hs_ob (fun b_1 hb_1 => ?_)
  refine hs_gp (fun gk1 => ?_)
  refine hs_bind (hf_X7_wordIs L) (fun r_4 u2' => ?_)
  have u2 : HG true true ad δ r_4.2 := u2'
  refine hs_ite (fun _ => ?_) (fun _ => ?_)
  · skip
    refine hs_ob (fun b_6 hb_6 => ?_)
    refine hs_gp (fun gk3 => ?_)
    refine hs_bind (hf_X7_wordIs L) (fun r_9 u4' => ?_)
    have u4 : HG true true ad δ r_9.2 := u2.t (u4')
    refine hs_ite (fun _ => ?_) (fun _ => ?_)
    · skip
      refine hs_ob (fun b_11 hb_11 => ?_)
      refine hs_gp (fun gk5 => ?_)
      refine hs_bind (hf_X7_wordIs L) (fun r_14 u6' => ?_)
      have u6 : HG true true ad δ r_14.2 := u4.t (u6')
      refine hs_ite (fun _ => ?_) (fun _ => ?_)
      · skip
        refine hs_ob (fun b_16 hb_16 => ?_)
        refine hs_gp (fun gk7 => ?_)
        refine hs_bind (hf_X7_wordIs L) (fun r_19 u8' => ?_)
        have u8 : HG true true ad δ r_19.2 := u6.t (u8')
        refine hs_ite (fun _ => ?_) (fun _ => ?_)
        · skip
          refine hs_ob (fun b_21 hb_21 => ?_)
          refine hs_gp (fun gk9 => ?_)
          refine hs_bind (hf_X7_wordIs L) (fun r_24 u10' => ?_)
          have u10 : HG true true ad δ r_24.2 := u8.t (u10')
          refine hs_ite (fun _ => ?_) (fun _ => ?_)
          · skip
            exact hs_mono (hj_X9_callOfWord_73 L) (fun _ hr => u10.t (hr))
          · skip
            exact hs_mono (hj_X9_callOfWord_73 L) (fun _ hr => u10.t (hr))
        · skip
          exact hs_some u8
      · skip
        exact hs_some u6
    · skip
      exact hs_some u4
  · skip
    exact hs_some u2
theorem hj_X9_readStep_163 {ad : List Nat} {h : hp} (L : Lay TLx ad h) {N : Nat} {a0 : Nat}  {δ : dp} : hs (J_X9_readStep_163 N h.1 a0 δ) (fun r => HG true true ad δ r) := by
  unfold J_X9_readStep_163
  exact hs_some HG_r
theorem hj_X9_readStep_87 {ad : List Nat} {h : hp} (L : Lay TLx ad h) {N : Nat} {a0 : Nat}  {δ : dp} : hs (J_X9_readStep_87 N h.1 a0 δ) (fun r => HG true true ad δ r) := by
  unfold J_X9_readStep_87
  refine hs_ob (fun b_13 hb_13 => ?_)
  refine hs_gp (fun gk1 => ?_)
  refine hs_bind (hf_X7_refuse L) (fun r_16 u2' => ?_)
  have u2 : HG true true ad δ r_16 := u2'
  exact hs_mono (hj_X9_readStep_163 L) (fun _ hr => u2.t (hr))
theorem hj_X7_needSign_26 {ad : List Nat} {h : hp} (L : Lay TLx ad h) {N : Nat} {a0 : Nat} {x1 : Int32}  {δ : dp} : hs (J_X7_needSign_26 N h.1 a0 x1 δ) (fun r => HG true true ad δ r) := by
  unfold J_X7_needSign_26
  exact hs_some HG_r
theorem hf_X7_needSign {ad : List Nat} {h : hp} (L : Lay TLx ad h) {N : Nat} {a0 : Nat} {x1 : Int32}  {δ : dp} : hs (D_X7_needSign N h.1 a0 x1 δ) (fun r => HG true true ad δ r) := by
  unfold D_X7_needSign
  refine hs_bind (hf_X7_ahead L) (fun r_1 u1' => ?_)
  have u1 : HG true true ad δ r_1.2 := u1'
  refine hs_ite (fun _ => ?_) (fun _ => ?_)
  · skip
    refine hs_bdv (fun δ_4 e2 => ?_)
    have u2 : HG true true ad δ δ_4 := HG.I u1 e2 (by decide) (by decide)
    exact hs_mono (hj_X7_needSign_26 L) (fun _ hr => u2.t (hr))
  · skip
    refine hs_bind (hf_X7_refuse L) (fun r_3 u3' => ?_)
    have u3 : HG true true ad δ r_3 := u1.t (u3')
    exact hs_mono (hj_X7_needSign_26 L) (fun _ hr => u3.t (hr))
theorem hj_X7_readNumber_116 {ad : List Nat} {h : hp} (L : Lay TLx ad h) {N : Nat} {a0 : Nat} {x1 : Int32} {x2 : Int32} {x3v : Int32}  {δ : dp} : hs (J_X7_readNumber_116 N h.1 a0 x1 x2 x3v δ) (fun r => HG true true ad δ r.2) := by
  unfold J_X7_readNumber_116
  exact hs_some HG_r
theorem hj_X7_readNumber_111 {ad : List Nat} {h : hp} (L : Lay TLx ad h) {N : Nat} {a0 : Nat} {x1 : Int32} {x2 : Int32} {x3v : Int32}  {δ : dp} : hs (J_X7_readNumber_111 N h.1 a0 x1 x2 x3v δ) (fun r => HG true true ad δ r.2) := by
  unfold J_X7_readNumber_111
  refine hs_bind (hf_X7_refuse L) (fun r_5 u1' => ?_)
  have u1 : HG true true ad δ r_5 := u1'
  exact hs_mono (hj_X7_readNumber_116 L) (fun _ hr => u1.t (hr))
theorem hj_X7_readNumber_82 {ad : List Nat} {h : hp} (L : Lay TLx ad h) {N : Nat} {a0 : Nat} {x1 : Int32} {x2 : Int32} {x3v : Int32}  {δ : dp} : hs (J_X7_readNumber_82 N h.1 a0 x1 x2 x3v δ) (fun r => HG true true ad δ r.2) := by
  unfold J_X7_readNumber_82
  refine hs_ite (fun _ => ?_) (fun _ => ?_)
  · skip
    refine hs_bind (hf_X7_refuse L) (fun r_7 u1' => ?_)
    have u1 : HG true true ad δ r_7 := u1'
    exact hs_mono (hj_X7_readNumber_116 L) (fun _ hr => u1.t (hr))
  · skip
    refine hs_ite (fun _ => ?_) (fun _ => ?_)
    · skip
      exact hj_X7_readNumber_111 L
    · skip
      refine hs_ite (fun _ => ?_) (fun _ => ?_)
      · skip
        exact hj_X7_readNumber_116 L
      · skip
        exact hj_X7_readNumber_111 L
theorem hl_X7_readNumber_7 {ad : List Nat} {h : hp} (L : Lay TLx ad h) {N : Nat} {a0 : Nat} {x1 : Int32} {x2 : Int32}  : ∀ (n : Nat) (x3v : Int32) (δ : dp), hs (L_X7_readNumber_7 N h.1 a0 x1 x2 n x3v δ) (fun r => HG true true ad δ r.2) := by
  intro n
  induction n with
  | zero => intro x3v δ; unfold L_X7_readNumber_7; exact hs_none
  | succ n ih =>
    intro x3v δ
    unfold L_X7_readNumber_7
    refine hs_ite (fun _ => ?_) (fun _ => ?_)
    · skip
      exact hj_X7_readNumber_82 L
    · skip
      refine hs_ob (fun b_8 hb_8 => ?_)
      refine hs_gd (fun gz1 => ?_)
      refine hs_ite (fun _ => ?_) (fun _ => ?_)
      · skip
        exact hj_X7_readNumber_82 L
      · skip
        refine hs_ob (fun b_11 hb_11 => ?_)
        refine hs_gd (fun gz2 => ?_)
        refine hs_ite (fun _ => ?_) (fun _ => ?_)
        · skip
          exact hj_X7_readNumber_82 L
        · skip
          refine hs_ob (fun b_14 hb_14 => ?_)
          refine hs_gd (fun gz3 => ?_)
          refine hs_bind (hf_J9_min_7cf53 L) (fun r_16 u4' => ?_)
          have u4 : HG true true ad δ r_16.2 := u4'
          refine hs_bdv (fun δ_17 e5 => ?_)
          have u5 : HG true true ad δ δ_17 := HG.I u4 e5 (by decide) (by decide)
          exact hs_mono (ih r_16.1 δ_17) (fun _ hr => u5.t (hr))
theorem hf_X7_readNumber {ad : List Nat} {h : hp} (L : Lay TLx ad h) {N : Nat} {a0 : Nat} {x1 : Int32} {x2 : Int32}  {δ : dp} : hs (D_X7_readNumber N h.1 a0 x1 x2 δ) (fun r => HG true true ad δ r.2) := by
  unfold D_X7_readNumber
  refine hs_bind (hf_X7_ahead L) (fun r_1 u1' => ?_)
  have u1 : HG true true ad δ r_1.2 := u1'
  exact hs_mono (hl_X7_readNumber_7 L N 0 r_1.2) (fun _ hr => u1.t (hr))
theorem hf_X9_openLoop {ad : List Nat} {h : hp} (L : Lay TLx ad h) {N : Nat} {a0 : Nat} (k9_a0 : q_K h.1 a0 = 9) {δ : dp} : hs (D_X9_openLoop N h.1 a0 δ) (fun r => HG true true ad δ r) := by
  unfold D_X9_openLoop
  refine hs_ob (fun b_1 hb_1 => ?_)
  refine hs_gp (fun gk1 => ?_)
  refine hs_bind (hf_X7_readNumber L) (fun r_4 u2' => ?_)
  have u2 : HG true true ad δ r_4.2 := u2'
  refine hs_ob (fun b_5 hb_5 => ?_)
  refine hs_gp (fun gk3 => ?_)
  refine hs_bind (hf_X7_needSign L) (fun r_8 u4' => ?_)
  have u4 : HG true true ad δ r_8 := u2.t (u4')
  refine hs_ob (fun b_9 hb_9 => ?_)
  refine hs_ob (fun b_11 hb_11 => ?_)
  refine hs_gp (fun gk5 => ?_)
  refine hs_gd (fun gz6 => ?_)
  refine hs_bdv (fun δ_14 e7 => ?_)
  have u7 : HG true true ad δ δ_14 := HG.R u4 e7 (nrO_9_5 L k9_a0 hb_9)
  refine hs_ob (fun b_16 hb_16 => ?_)
  refine hs_gd (fun gz8 => ?_)
  refine hs_bdv (fun δ_18 e9 => ?_)
  have u9 : HG true true ad δ δ_18 := HG.R u7 e9 (nrO_9_6 L k9_a0 hb_16)
  refine hs_ob (fun b_20 hb_20 => ?_)
  refine hs_gp (fun gk10 => ?_)
  refine hs_bind (hf_X8_add L gk10) (fun r_23 u11' => ?_)
  have u11 : HG true true ad δ r_23 := u9.t (u11')
  refine hs_bdv (fun δ_24 e12 => ?_)
  have u12 : HG true true ad δ δ_24 := HG.I u11 e12 (by decide) (by decide)
  exact hs_some u12
theorem hj_X9_readUnit_101 {ad : List Nat} {h : hp} (L : Lay TLx ad h) {N : Nat} {T : Nat → Int32 → dp → Option (dp)} {a0 : Nat} {x1 : Int32} (h_T : ∀ (y0 : Nat) (y1 : Int32) (δ1 : dp), hs (T y0 y1 δ1) (fun r => HG true true ad δ1 r)) {δ : dp} : hs (J_X9_readUnit_101 N h.1 T a0 x1 δ) (fun r => HG true true ad δ r) := by
  unfold J_X9_readUnit_101
  exact hs_some HG_r
theorem hj_X9_addName_151 {ad : List Nat} {h : hp} (L : Lay TLx ad h) {N : Nat} {a0 : Nat}  {δ : dp} : hs (J_X9_addName_151 N h.1 a0 δ) (fun r => HG true true ad δ r) := by
  unfold J_X9_addName_151
  exact hs_some HG_r
theorem hj_X9_addName_60 {ad : List Nat} {h : hp} (L : Lay TLx ad h) {N : Nat} {a0 : Nat} {xs0 : Int32} {as1 : Nat} {x1v : Int32} (k8_as1 : q_K h.1 as1 = 8) {δ : dp} : hs (J_X9_addName_60 N h.1 a0 xs0 as1 x1v δ) (fun r => HG true true ad δ r) := by
  unfold J_X9_addName_60
  refine hs_bind (hf_J9_max_7cf53 L) (fun r_17 u1' => ?_)
  have u1 : HG true true ad δ r_17.2 := u1'
  refine hs_bind (hf_X8_add L k8_as1) (fun r_18 u2' => ?_)
  have u2 : HG true true ad δ r_18 := u1.t (u2')
  exact hs_mono (hj_X9_addName_151 L) (fun _ hr => u2.t (hr))
theorem hj_X9_addName_45 {ad : List Nat} {h : hp} (L : Lay TLx ad h) {N : Nat} {a0 : Nat} {xs0 : Int32} {xs1 : Int32}  {δ : dp} : hs (J_X9_addName_45 N h.1 a0 xs0 xs1 δ) (fun r => HG true true ad δ r) := by
  unfold J_X9_addName_45
  refine hs_biv (fun x_11 _ => ?_)
  refine hs_ob (fun b_13 hb_13 => ?_)
  refine hs_gp (fun gk1 => ?_)
  refine hs_ite (fun _ => ?_) (fun _ => ?_)
  · skip
    exact hj_X9_addName_60 L gk1
  · skip
    exact hj_X9_addName_60 L gk1
theorem hj_X9_addName_24 {ad : List Nat} {h : hp} (L : Lay TLx ad h) {N : Nat} {a0 : Nat}  {δ : dp} : hs (J_X9_addName_24 N h.1 a0 δ) (fun r => HG true true ad δ r) := by
  unfold J_X9_addName_24
  refine hs_ob (fun b_6 hb_6 => ?_)
  refine hs_gp (fun gk1 => ?_)
  refine hs_bind (hf_X7_wordIs L) (fun r_9 u2' => ?_)
  have u2 : HG true true ad δ r_9.2 := u2'
  refine hs_ite (fun _ => ?_) (fun _ => ?_)
  · skip
    exact hs_mono (hj_X9_addName_45 L) (fun _ hr => u2.t (hr))
  · skip
    exact hs_mono (hj_X9_addName_45 L) (fun _ hr => u2.t (hr))
theorem hf_X9_addName {ad : List Nat} {h : hp} (L : Lay TLx ad h) {N : Nat} {a0 : Nat}  {δ : dp} : hs (D_X9_addName N h.1 a0 δ) (fun r => HG true true ad δ r) := by
  unfold D_X9_addName
  refine hs_ob (fun b_1 hb_1 => ?_)
  refine hs_gp (fun gk1 => ?_)
  refine hs_bind (hf_X7_wordIs L) (fun r_4 u2' => ?_)
  have u2 : HG true true ad δ r_4.2 := u2'
  refine hs_ite (fun _ => ?_) (fun _ => ?_)
  · skip
    refine hs_ob (fun b_19 hb_19 => ?_)
    refine hs_gp (fun gk3 => ?_)
    refine hs_bind (hf_X7_wordIs L) (fun r_22 u4' => ?_)
    have u4 : HG true true ad δ r_22.2 := u2.t (u4')
    refine hs_ite (fun _ => ?_) (fun _ => ?_)
    · skip
      refine hs_ob (fun b_24 hb_24 => ?_)
      refine hs_gp (fun gk5 => ?_)
      refine hs_bind (hf_X7_wordIs L) (fun r_27 u6' => ?_)
      have u6 : HG true true ad δ r_27.2 := u4.t (u6')
      refine hs_ite (fun _ => ?_) (fun _ => ?_)
      · skip
        refine hs_ob (fun b_29 hb_29 => ?_)
        refine hs_gp (fun gk7 => ?_)
        refine hs_bind (hf_X7_wordIs L) (fun r_32 u8' => ?_)
        have u8 : HG true true ad δ r_32.2 := u6.t (u8')
        refine hs_ite (fun _ => ?_) (fun _ => ?_)
        · skip
          refine hs_ob (fun b_34 hb_34 => ?_)
          refine hs_gp (fun gk9 => ?_)
          refine hs_bind (hf_X7_wordIs L) (fun r_37 u10' => ?_)
          have u10 : HG true true ad δ r_37.2 := u8.t (u10')
          refine hs_ite (fun _ => ?_) (fun _ => ?_)
          · skip
            refine hs_ob (fun b_39 hb_39 => ?_)
            refine hs_gp (fun gk11 => ?_)
            refine hs_bind (hf_X7_refuse L) (fun r_42 u12' => ?_)
            have u12 : HG true true ad δ r_42 := u10.t (u12')
            exact hs_mono (hj_X9_addName_151 L) (fun _ hr => u12.t (hr))
          · skip
            refine hs_ob (fun b_43 hb_43 => ?_)
            refine hs_gp (fun gk13 => ?_)
            refine hs_bind (hf_X8_add L gk13) (fun r_46 u14' => ?_)
            have u14 : HG true true ad δ r_46 := u10.t (u14')
            exact hs_mono (hj_X9_addName_151 L) (fun _ hr => u14.t (hr))
        · skip
          refine hs_ob (fun b_47 hb_47 => ?_)
          refine hs_gp (fun gk15 => ?_)
          refine hs_bind (hf_X8_add L gk15) (fun r_50 u16' => ?_)
          have u16 : HG true true ad δ r_50 := u8.t (u16')
          exact hs_mono (hj_X9_addName_151 L) (fun _ hr => u16.t (hr))
      · skip
        refine hs_ob (fun b_51 hb_51 => ?_)
        refine hs_gp (fun gk17 => ?_)
        refine hs_bind (hf_X8_add L gk17) (fun r_54 u18' => ?_)
        have u18 : HG true true ad δ r_54 := u6.t (u18')
        exact hs_mono (hj_X9_addName_151 L) (fun _ hr => u18.t (hr))
    · skip
      exact hs_mono (hj_X9_addName_24 L) (fun _ hr => u4.t (hr))
  · skip
    exact hs_mono (hj_X9_addName_24 L) (fun _ hr => u2.t (hr))
theorem hj_X9_readUnit_90 {ad : List Nat} {h : hp} (L : Lay TLx ad h) {N : Nat} {T : Nat → Int32 → dp → Option (dp)} {a0 : Nat} {x1 : Int32} (h_T : ∀ (y0 : Nat) (y1 : Int32) (δ1 : dp), hs (T y0 y1 δ1) (fun r => HG true true ad δ1 r)) {δ : dp} : hs (J_X9_readUnit_90 N h.1 T a0 x1 δ) (fun r => HG true true ad δ r) := by
  unfold J_X9_readUnit_90
  refine hs_ob (fun b_7 hb_7 => ?_)
  refine hs_gp (fun gk1 => ?_)
  refine hs_bind (hf_X7_readWord L) (fun r_10 u2' => ?_)
  have u2 : HG true true ad δ r_10 := u2'
  refine hs_bind (hf_X9_addName L) (fun r_11 u3' => ?_)
  have u3 : HG true true ad δ r_11 := u2.t (u3')
  exact hs_mono (hj_X9_readUnit_101 L h_T) (fun _ hr => u3.t (hr))
theorem hb_X9_readUnit {ad : List Nat} {h : hp} (L : Lay TLx ad h) {N : Nat} {T : Nat → Int32 → dp → Option (dp)} {a0 : Nat} {x1 : Int32} (h_T : ∀ (y0 : Nat) (y1 : Int32) (δ1 : dp), hs (T y0 y1 δ1) (fun r => HG true true ad δ1 r)) {δ : dp} : hs (B_X9_readUnit N h.1 T a0 x1 δ) (fun r => HG true true ad δ r) := by
  unfold B_X9_readUnit
  refine hs_ob (fun b_1 hb_1 => ?_)
  refine hs_gp (fun gk1 => ?_)
  refine hs_bind (hf_X7_ahead L) (fun r_4 u2' => ?_)
  have u2 : HG true true ad δ r_4.2 := u2'
  refine hs_ite (fun _ => ?_) (fun _ => ?_)
  · skip
    refine hs_ite (fun _ => ?_) (fun _ => ?_)
    · skip
      refine hs_ob (fun b_22 hb_22 => ?_)
      refine hs_gp (fun gk3 => ?_)
      refine hs_bind (hf_X7_needSign L) (fun r_25 u4' => ?_)
      have u4 : HG true true ad δ r_25 := u2.t (u4')
      refine hs_bind (h_T a0 (x1 + (1 : Int32)) r_25) (fun r_26 u5' => ?_)
      have u5 : HG true true ad δ r_26 := u4.t (u5')
      refine hs_ob (fun b_27 hb_27 => ?_)
      refine hs_gp (fun gk6 => ?_)
      refine hs_bind (hf_X7_needSign L) (fun r_30 u7' => ?_)
      have u7 : HG true true ad δ r_30 := u5.t (u7')
      exact hs_mono (hj_X9_readUnit_101 L h_T) (fun _ hr => u7.t (hr))
    · skip
      refine hs_ob (fun b_31 hb_31 => ?_)
      refine hs_gp (fun gk8 => ?_)
      refine hs_bind (hf_X7_refuse L) (fun r_34 u9' => ?_)
      have u9 : HG true true ad δ r_34 := u2.t (u9')
      exact hs_some u9
  · skip
    refine hs_ite (fun _ => ?_) (fun _ => ?_)
    · skip
      exact hs_mono (hj_X9_readUnit_90 L h_T) (fun _ hr => u2.t (hr))
    · skip
      refine hs_ite (fun _ => ?_) (fun _ => ?_)
      · skip
        exact hs_mono (hj_X9_readUnit_90 L h_T) (fun _ hr => u2.t (hr))
      · skip
        refine hs_ob (fun b_13 hb_13 => ?_)
        refine hs_gp (fun gk10 => ?_)
        refine hs_ob (fun b_16 hb_16 => ?_)
        refine hs_gp (fun gk11 => ?_)
        refine hs_bind (hf_X7_readNumber L) (fun r_19 u12' => ?_)
        have u12 : HG true true ad δ r_19.2 := u2.t (u12')
        refine hs_bind (hf_X8_add L gk10) (fun r_20 u13' => ?_)
        have u13 : HG true true ad δ r_20 := u12.t (u13')
        exact hs_mono (hj_X9_readUnit_101 L h_T) (fun _ hr => u13.t (hr))
theorem hj_X9_readProduct_75 {ad : List Nat} {h : hp} (L : Lay TLx ad h) {N : Nat} {T : Nat → Int32 → dp → Option (dp)} {a0 : Nat} {x1 : Int32} {kt7 : Int32 → dp → Option (dp)} {xs0 : Int32} {as1 : Nat} {x2v : Int32} (k8_as1 : q_K h.1 as1 = 8) (h_T : ∀ (y0 : Nat) (y1 : Int32) (δ1 : dp), hs (T y0 y1 δ1) (fun r => HG true true ad δ1 r)) (h_kt7 : ∀ (y0 : Int32) (δ1 : dp), hs (kt7 y0 δ1) (fun r => HG true true ad δ1 r)) {δ : dp} : hs (J_X9_readProduct_75 N h.1 T a0 x1 kt7 xs0 as1 x2v δ) (fun r => HG true true ad δ r) := by
  unfold J_X9_readProduct_75
  refine hs_bind (hf_X8_add L k8_as1) (fun r_22 u1' => ?_)
  have u1 : HG true true ad δ r_22 := u1'
  refine hs_biv (fun x_23 _ => ?_)
  exact hs_mono (h_kt7 x_23 r_22) (fun _ hr => u1.t (hr))
theorem hj_X9_readProduct_45 {ad : List Nat} {h : hp} (L : Lay TLx ad h) {N : Nat} {T : Nat → Int32 → dp → Option (dp)} {a0 : Nat} {x1 : Int32} {kt7 : Int32 → dp → Option (dp)} {x2v : Int32} {x3v : Int32} (h_T : ∀ (y0 : Nat) (y1 : Int32) (δ1 : dp), hs (T y0 y1 δ1) (fun r => HG true true ad δ1 r)) (h_kt7 : ∀ (y0 : Int32) (δ1 : dp), hs (kt7 y0 δ1) (fun r => HG true true ad δ1 r)) {δ : dp} : hs (J_X9_readProduct_45 N h.1 T a0 x1 kt7 x2v x3v δ) (fun r => HG true true ad δ r) := by
  unfold J_X9_readProduct_45
  refine hs_ob (fun b_13 hb_13 => ?_)
  refine hs_gp (fun gk1 => ?_)
  refine hs_bind (hf_X7_needSign L) (fun r_16 u2' => ?_)
  have u2 : HG true true ad δ r_16 := u2'
  refine hs_bind (hb_X9_readUnit L h_T) (fun r_17 u3' => ?_)
  have u3 : HG true true ad δ r_17 := u2.t (u3')
  refine hs_ob (fun b_18 hb_18 => ?_)
  refine hs_gp (fun gk4 => ?_)
  refine hs_ite (fun _ => ?_) (fun _ => ?_)
  · skip
    exact hs_mono (hj_X9_readProduct_75 L gk4 h_T h_kt7) (fun _ hr => u3.t (hr))
  · skip
    exact hs_mono (hj_X9_readProduct_75 L gk4 h_T h_kt7) (fun _ hr => u3.t (hr))
theorem hj_X9_readProduct_85 {ad : List Nat} {h : hp} (L : Lay TLx ad h) {N : Nat} {T : Nat → Int32 → dp → Option (dp)} {a0 : Nat} {x1 : Int32} (h_T : ∀ (y0 : Nat) (y1 : Int32) (δ1 : dp), hs (T y0 y1 δ1) (fun r => HG true true ad δ1 r)) {δ : dp} : hs (J_X9_readProduct_85 N h.1 T a0 x1 δ) (fun r => HG true true ad δ r) := by
  unfold J_X9_readProduct_85
  exact hs_some HG_r
theorem hl_X9_readProduct_7 {ad : List Nat} {h : hp} (L : Lay TLx ad h) {N : Nat} {T : Nat → Int32 → dp → Option (dp)} {a0 : Nat} {x1 : Int32} (h_T : ∀ (y0 : Nat) (y1 : Int32) (δ1 : dp), hs (T y0 y1 δ1) (fun r => HG true true ad δ1 r)) : ∀ (n : Nat) (x2v : Int32) (δ : dp), hs (L_X9_readProduct_7 N h.1 T a0 x1 n x2v δ) (fun r => HG true true ad δ r) := by
  intro n
  induction n with
  | zero => intro x2v δ; unfold L_X9_readProduct_7; exact hs_none
  | succ n ih =>
    intro x2v δ
    unfold L_X9_readProduct_7
    refine hs_ite (fun _ => ?_) (fun _ => ?_)
    · skip
      exact hj_X9_readProduct_85 L h_T
    · skip
      refine hs_ob (fun b_3 hb_3 => ?_)
      refine hs_gp (fun gk1 => ?_)
      refine hs_bind (hf_X7_isSound L) (fun r_6 u2' => ?_)
      have u2 : HG true true ad δ r_6.2 := u2'
      refine hs_ite (fun _ => ?_) (fun _ => ?_)
      · skip
        exact hs_mono (hj_X9_readProduct_85 L h_T) (fun _ hr => u2.t (hr))
      · skip
        refine hs_ob (fun b_8 hb_8 => ?_)
        refine hs_gp (fun gk3 => ?_)
        refine hs_bind (hf_X7_ahead L) (fun r_11 u4' => ?_)
        have u4 : HG true true ad δ r_11.2 := u2.t (u4')
        refine hs_ite (fun _ => ?_) (fun _ => ?_)
        · skip
          exact hs_mono (hj_X9_readProduct_45 L h_T ih) (fun _ hr => u4.t (hr))
        · skip
          refine hs_ite (fun _ => ?_) (fun _ => ?_)
          · skip
            exact hs_mono (hj_X9_readProduct_45 L h_T ih) (fun _ hr => u4.t (hr))
          · skip
            exact hs_some u4
theorem hb_X9_readProduct {ad : List Nat} {h : hp} (L : Lay TLx ad h) {N : Nat} {T : Nat → Int32 → dp → Option (dp)} {a0 : Nat} {x1 : Int32} (h_T : ∀ (y0 : Nat) (y1 : Int32) (δ1 : dp), hs (T y0 y1 δ1) (fun r => HG true true ad δ1 r)) {δ : dp} : hs (B_X9_readProduct N h.1 T a0 x1 δ) (fun r => HG true true ad δ r) := by
  unfold B_X9_readProduct
  refine hs_bind (hb_X9_readUnit L h_T) (fun r_1 u1' => ?_)
  have u1 : HG true true ad δ r_1 := u1'
  exact hs_mono (hl_X9_readProduct_7 L h_T N 0 r_1) (fun _ hr => u1.t (hr))
theorem hj_X9_readSum_74 {ad : List Nat} {h : hp} (L : Lay TLx ad h) {N : Nat} {T : Nat → Int32 → dp → Option (dp)} {a0 : Nat} {x1 : Int32} {kt7 : Int32 → dp → Option (dp)} {xs0 : Int32} {as1 : Nat} {x2v : Int32} (k8_as1 : q_K h.1 as1 = 8) (h_T : ∀ (y0 : Nat) (y1 : Int32) (δ1 : dp), hs (T y0 y1 δ1) (fun r => HG true true ad δ1 r)) (h_kt7 : ∀ (y0 : Int32) (δ1 : dp), hs (kt7 y0 δ1) (fun r => HG true true ad δ1 r)) {δ : dp} : hs (J_X9_readSum_74 N h.1 T a0 x1 kt7 xs0 as1 x2v δ) (fun r => HG true true ad δ r) := by
  unfold J_X9_readSum_74
  refine hs_bind (hf_X8_add L k8_as1) (fun r_22 u1' => ?_)
  have u1 : HG true true ad δ r_22 := u1'
  refine hs_biv (fun x_23 _ => ?_)
  exact hs_mono (h_kt7 x_23 r_22) (fun _ hr => u1.t (hr))
theorem hj_X9_readSum_45 {ad : List Nat} {h : hp} (L : Lay TLx ad h) {N : Nat} {T : Nat → Int32 → dp → Option (dp)} {a0 : Nat} {x1 : Int32} {kt7 : Int32 → dp → Option (dp)} {x2v : Int32} {x3v : Int32} (h_T : ∀ (y0 : Nat) (y1 : Int32) (δ1 : dp), hs (T y0 y1 δ1) (fun r => HG true true ad δ1 r)) (h_kt7 : ∀ (y0 : Int32) (δ1 : dp), hs (kt7 y0 δ1) (fun r => HG true true ad δ1 r)) {δ : dp} : hs (J_X9_readSum_45 N h.1 T a0 x1 kt7 x2v x3v δ) (fun r => HG true true ad δ r) := by
  unfold J_X9_readSum_45
  refine hs_ob (fun b_13 hb_13 => ?_)
  refine hs_gp (fun gk1 => ?_)
  refine hs_bind (hf_X7_needSign L) (fun r_16 u2' => ?_)
  have u2 : HG true true ad δ r_16 := u2'
  refine hs_bind (hb_X9_readProduct L h_T) (fun r_17 u3' => ?_)
  have u3 : HG true true ad δ r_17 := u2.t (u3')
  refine hs_ob (fun b_18 hb_18 => ?_)
  refine hs_gp (fun gk4 => ?_)
  refine hs_ite (fun _ => ?_) (fun _ => ?_)
  · skip
    exact hs_mono (hj_X9_readSum_74 L gk4 h_T h_kt7) (fun _ hr => u3.t (hr))
  · skip
    exact hs_mono (hj_X9_readSum_74 L gk4 h_T h_kt7) (fun _ hr => u3.t (hr))
theorem hj_X9_readSum_84 {ad : List Nat} {h : hp} (L : Lay TLx ad h) {N : Nat} {T : Nat → Int32 → dp → Option (dp)} {a0 : Nat} {x1 : Int32} (h_T : ∀ (y0 : Nat) (y1 : Int32) (δ1 : dp), hs (T y0 y1 δ1) (fun r => HG true true ad δ1 r)) {δ : dp} : hs (J_X9_readSum_84 N h.1 T a0 x1 δ) (fun r => HG true true ad δ r) := by
  unfold J_X9_readSum_84
  exact hs_some HG_r
theorem hl_X9_readSum_7 {ad : List Nat} {h : hp} (L : Lay TLx ad h) {N : Nat} {T : Nat → Int32 → dp → Option (dp)} {a0 : Nat} {x1 : Int32} (h_T : ∀ (y0 : Nat) (y1 : Int32) (δ1 : dp), hs (T y0 y1 δ1) (fun r => HG true true ad δ1 r)) : ∀ (n : Nat) (x2v : Int32) (δ : dp), hs (L_X9_readSum_7 N h.1 T a0 x1 n x2v δ) (fun r => HG true true ad δ r) := by
  intro n
  induction n with
  | zero => intro x2v δ; unfold L_X9_readSum_7; exact hs_none
  | succ n ih =>
    intro x2v δ
    unfold L_X9_readSum_7
    refine hs_ite (fun _ => ?_) (fun _ => ?_)
    · skip
      exact hj_X9_readSum_84 L h_T
    · skip
      refine hs_ob (fun b_3 hb_3 => ?_)
      refine hs_gp (fun gk1 => ?_)
      refine hs_bind (hf_X7_isSound L) (fun r_6 u2' => ?_)
      have u2 : HG true true ad δ r_6.2 := u2'
      refine hs_ite (fun _ => ?_) (fun _ => ?_)
      · skip
        exact hs_mono (hj_X9_readSum_84 L h_T) (fun _ hr => u2.t (hr))
      · skip
        refine hs_ob (fun b_8 hb_8 => ?_)
        refine hs_gp (fun gk3 => ?_)
        refine hs_bind (hf_X7_ahead L) (fun r_11 u4' => ?_)
        have u4 : HG true true ad δ r_11.2 := u2.t (u4')
        refine hs_ite (fun _ => ?_) (fun _ => ?_)
        · skip
          exact hs_mono (hj_X9_readSum_45 L h_T ih) (fun _ hr => u4.t (hr))
        · skip
          refine hs_ite (fun _ => ?_) (fun _ => ?_)
          · skip
            exact hs_mono (hj_X9_readSum_45 L h_T ih) (fun _ hr => u4.t (hr))
          · skip
            exact hs_some u4
theorem hb_X9_readSum {ad : List Nat} {h : hp} (L : Lay TLx ad h) {N : Nat} {T : Nat → Int32 → dp → Option (dp)} {a0 : Nat} {x1 : Int32} (h_T : ∀ (y0 : Nat) (y1 : Int32) (δ1 : dp), hs (T y0 y1 δ1) (fun r => HG true true ad δ1 r)) {δ : dp} : hs (B_X9_readSum N h.1 T a0 x1 δ) (fun r => HG true true ad δ r) := by
  unfold B_X9_readSum
  refine hs_bind (hb_X9_readProduct L h_T) (fun r_1 u1' => ?_)
  have u1 : HG true true ad δ r_1 := u1'
  exact hs_mono (hl_X9_readSum_7 L h_T N 0 r_1) (fun _ hr => u1.t (hr))
theorem he_X9_readSum {ad : List Nat} {h : hp} (L : Lay TLx ad h) {N : Nat} : ∀ (k : Nat) (a0 : Nat) (x1 : Int32) (δ : dp), hs (E_X9_readSum N h.1 k a0 x1 δ) (fun r => HG true true ad δ r) := by
  intro k
  induction k with
  | zero => intro a0 x1 δ ; unfold E_X9_readSum; exact hs_none
  | succ k ih =>
    intro a0 x1 δ 
    unfold E_X9_readSum
    exact hb_X9_readSum L  ih
theorem hf_X9_readSum {ad : List Nat} {h : hp} (L : Lay TLx ad h) {N : Nat} {a0 : Nat} {x1 : Int32}  {δ : dp} : hs (D_X9_readSum N h.1 a0 x1 δ) (fun r => HG true true ad δ r) := by
  unfold D_X9_readSum
  exact he_X9_readSum L 20 a0 x1 δ
theorem hj_X9_readStep_98 {ad : List Nat} {h : hp} (L : Lay TLx ad h) {N : Nat} {a0 : Nat} {x1v : Int32} {x2v : Int32} (k9_a0 : q_K h.1 a0 = 9) {δ : dp} : hs (J_X9_readStep_98 N h.1 a0 x1v x2v δ) (fun r => HG true true ad δ r) := by
  unfold J_X9_readStep_98
  refine hs_ite (fun _ => ?_) (fun _ => ?_)
  · skip
    refine hs_bdv (fun δ_19 e1 => ?_)
    have u1 : HG true true ad δ δ_19 := HG.I HG_r e1 (by decide) (by decide)
    refine hs_bdv (fun δ_21 e2 => ?_)
    have u2 : HG true true ad δ δ_21 := HG.I u1 e2 (by decide) (by decide)
    refine hs_bind (hf_X9_readSum L) (fun r_23 u3' => ?_)
    have u3 : HG true true ad δ r_23 := u2.t (u3')
    refine hs_ob (fun b_24 hb_24 => ?_)
    refine hs_gp (fun gk4 => ?_)
    refine hs_bind (hf_X7_needSign L) (fun r_27 u5' => ?_)
    have u5 : HG true true ad δ r_27 := u3.t (u5')
    refine hs_ob (fun b_28 hb_28 => ?_)
    refine hs_gp (fun gk6 => ?_)
    refine hs_bind (hf_X8_add L gk6) (fun r_31 u7' => ?_)
    have u7 : HG true true ad δ r_31 := u5.t (u7')
    exact hs_mono (hj_X9_readStep_163 L) (fun _ hr => u7.t (hr))
  · skip
    refine hs_bdv (fun δ_32 e8 => ?_)
    have u8 : HG true true ad δ δ_32 := HG.I HG_r e8 (by decide) (by decide)
    refine hs_bind (hf_X9_openLoop L k9_a0) (fun r_34 u9' => ?_)
    have u9 : HG true true ad δ r_34 := u8.t (u9')
    exact hs_mono (hj_X9_readStep_163 L) (fun _ hr => u9.t (hr))
theorem hj_X9_readStep_66 {ad : List Nat} {h : hp} (L : Lay TLx ad h) {N : Nat} {a0 : Nat} {x1v : Int32} {x2v : Int32} (k9_a0 : q_K h.1 a0 = 9) {δ : dp} : hs (J_X9_readStep_66 N h.1 a0 x1v x2v δ) (fun r => HG true true ad δ r) := by
  unfold J_X9_readStep_66
  refine hs_ite (fun _ => ?_) (fun _ => ?_)
  · skip
    exact hj_X9_readStep_87 L
  · skip
    refine hs_ite (fun _ => ?_) (fun _ => ?_)
    · skip
      exact hj_X9_readStep_98 L k9_a0
    · skip
      refine hs_ite (fun _ => ?_) (fun _ => ?_)
      · skip
        exact hj_X9_readStep_98 L k9_a0
      · skip
        exact hj_X9_readStep_87 L
theorem hj_X9_readStep_24 {ad : List Nat} {h : hp} (L : Lay TLx ad h) {N : Nat} {a0 : Nat} (k9_a0 : q_K h.1 a0 = 9) {δ : dp} : hs (J_X9_readStep_24 N h.1 a0 δ) (fun r => HG true true ad δ r) := by
  unfold J_X9_readStep_24
  refine hs_ob (fun b_2 hb_2 => ?_)
  refine hs_gp (fun gk1 => ?_)
  refine hs_bind (hf_X7_readWord L) (fun r_5 u2' => ?_)
  have u2 : HG true true ad δ r_5 := u2'
  refine hs_bind (hf_X9_callOfWord L) (fun r_6 u3' => ?_)
  have u3 : HG true true ad δ r_6.2 := u2.t (u3')
  refine hs_ob (fun b_7 hb_7 => ?_)
  refine hs_gp (fun gk4 => ?_)
  refine hs_bind (hf_X7_wordIs L) (fun r_10 u5' => ?_)
  have u5 : HG true true ad δ r_10.2 := u3.t (u5')
  refine hs_ite (fun _ => ?_) (fun _ => ?_)
  · skip
    refine hs_ite (fun _ => ?_) (fun _ => ?_)
    · skip
      refine hs_ob (fun b_37 hb_37 => ?_)
      refine hs_gp (fun gk6 => ?_)
      refine hs_bind (hf_X7_refuse L) (fun r_40 u7' => ?_)
      have u7 : HG true true ad δ r_40 := u5.t (u7')
      exact hs_mono (hj_X9_readStep_163 L) (fun _ hr => u7.t (hr))
    · skip
      exact hs_mono (hj_X9_readStep_66 L k9_a0) (fun _ hr => u5.t (hr))
  · skip
    exact hs_mono (hj_X9_readStep_66 L k9_a0) (fun _ hr => u5.t (hr))
theorem hf_X9_readStep {ad : List Nat} {h : hp} (L : Lay TLx ad h) {N : Nat} {a0 : Nat} (k9_a0 : q_K h.1 a0 = 9) {δ : dp} : hs (D_X9_readStep N h.1 a0 δ) (fun r => HG true true ad δ r) := by
  unfold D_X9_readStep
  refine hs_ite (fun _ => ?_) (fun _ => ?_)
  · skip
    exact hj_X9_readStep_24 L k9_a0
  · skip
    refine hs_ob (fun b_41 hb_41 => ?_)
    refine hs_gp (fun gk1 => ?_)
    refine hs_bind (hf_X7_takeSign L) (fun r_44 u2' => ?_)
    have u2 : HG true true ad δ r_44.2 := u2'
    refine hs_ite (fun _ => ?_) (fun _ => ?_)
    · skip
      exact hs_mono (hj_X9_readStep_24 L k9_a0) (fun _ hr => u2.t (hr))
    · skip
      refine hs_bind (hf_X9_closeLoop L) (fun r_46 u3' => ?_)
      have u3 : HG true true ad δ r_46 := u2.t (u3')
      exact hs_some u3
theorem hj_X9_read_83 {ad : List Nat} {h : hp} (L : Lay TLx ad h) {N : Nat} {a0 : Nat} {a1 : Nat} {a2 : Nat}  {δ : dp} : hs (J_X9_read_83 N h.1 a0 a1 a2 δ) (fun r => HG true true ad δ r) := by
  unfold J_X9_read_83
  exact hs_some HG_r
theorem hj_X9_read_68 {ad : List Nat} {h : hp} (L : Lay TLx ad h) {N : Nat} {a0 : Nat} {a1 : Nat} {a2 : Nat}  {δ : dp} : hs (J_X9_read_68 N h.1 a0 a1 a2 δ) (fun r => HG true true ad δ r) := by
  unfold J_X9_read_68
  refine hs_ite (fun _ => ?_) (fun _ => ?_)
  · skip
    refine hs_ob (fun b_17 hb_17 => ?_)
    refine hs_gp (fun gk1 => ?_)
    refine hs_bind (hf_X7_refuse L) (fun r_20 u2' => ?_)
    have u2 : HG true true ad δ r_20 := u2'
    exact hs_mono (hj_X9_read_83 L) (fun _ hr => u2.t (hr))
  · skip
    exact hj_X9_read_83 L
theorem hl_X9_read_34 {ad : List Nat} {h : hp} (L : Lay TLx ad h) {N : Nat} {a0 : Nat} {a1 : Nat} {a2 : Nat} (k9_a0 : q_K h.1 a0 = 9) : ∀ (n : Nat) (x3v : Int32) (δ : dp), hs (L_X9_read_34 N h.1 a0 a1 a2 n x3v δ) (fun r => HG true true ad δ r) := by
  intro n
  induction n with
  | zero => intro x3v δ; unfold L_X9_read_34; exact hs_none
  | succ n ih =>
    intro x3v δ
    unfold L_X9_read_34
    refine hs_ite (fun _ => ?_) (fun _ => ?_)
    · skip
      exact hj_X9_read_68 L
    · skip
      refine hs_ob (fun b_21 hb_21 => ?_)
      refine hs_gp (fun gk1 => ?_)
      refine hs_bind (hf_X7_isSound L) (fun r_24 u2' => ?_)
      have u2 : HG true true ad δ r_24.2 := u2'
      refine hs_ite (fun _ => ?_) (fun _ => ?_)
      · skip
        exact hs_mono (hj_X9_read_68 L) (fun _ hr => u2.t (hr))
      · skip
        refine hs_bind (hf_X9_isOver L) (fun r_26 u3' => ?_)
        have u3 : HG true true ad δ r_26.2 := u2.t (u3')
        refine hs_ite (fun _ => ?_) (fun _ => ?_)
        · skip
          refine hs_bind (hf_X9_readStep L k9_a0) (fun r_28 u4' => ?_)
          have u4 : HG true true ad δ r_28 := u3.t (u4')
          refine hs_biv (fun x_29 _ => ?_)
          exact hs_mono (ih x_29 r_28) (fun _ hr => u4.t (hr))
        · skip
          exact hs_mono (hj_X9_read_68 L) (fun _ hr => u3.t (hr))
theorem hf_X9_read {ad : List Nat} {h : hp} (L : Lay TLx ad h) {N : Nat} {a0 : Nat} {a1 : Nat} {a2 : Nat} (k9_a0 : q_K h.1 a0 = 9) {δ : dp} : hs (D_X9_read N h.1 a0 a1 a2 δ) (fun r => HG false true ad δ r) := by
  unfold D_X9_read
  refine hs_bdv (fun δ_1 e1 => ?_)
  have u1 : HG false true ad δ δ_1 := HG.V HG_r e1
  refine hs_bdv (fun δ_3 e2 => ?_)
  have u2 : HG false true ad δ δ_3 := HG.V u1 e2
  refine hs_ob (fun b_5 hb_5 => ?_)
  refine hs_gp (fun gk3 => ?_)
  refine hs_bind (hf_X8_clear L) (fun r_8 u4' => ?_)
  have u4 : HG false true ad δ r_8 := u2.t ((u4').w (by decide) (by decide))
  refine hs_bdv (fun δ_9 e5 => ?_)
  have u5 : HG false true ad δ δ_9 := HG.I u4 e5 (by decide) (by decide)
  refine hs_bdv (fun δ_11 e6 => ?_)
  have u6 : HG false true ad δ δ_11 := HG.I u5 e6 (by decide) (by decide)
  refine hs_bdv (fun δ_13 e7 => ?_)
  have u7 : HG false true ad δ δ_13 := HG.I u6 e7 (by decide) (by decide)
  exact hs_mono (hl_X9_read_34 L k9_a0 N 0 δ_13) (fun _ hr => u7.t ((hr).w (by decide) (by decide)))
theorem hj_X11_thief_21 {ad : List Nat} {h : hp} (L : Lay TLx ad h) {N : Nat} {a0 : Nat} {x1 : Int32} {xs0 : Int32} {as1 : Nat} (k11_a0 : q_K h.1 a0 = 11) (k11_as1 : q_K h.1 as1 = 11) {δ : dp} : hs (J_X11_thief_21 N h.1 a0 x1 xs0 as1 δ) (fun r => HG false false ad δ r.2) := by
  unfold J_X11_thief_21
  refine hs_bxv (hf_X11_need L k11_as1) (fun _ _ u1' => (u1').w (by decide) (by decide)) (fun δ_4 u1' => ?_)
  have u1 : HG false false ad δ δ_4 := (u1').w (by decide) (by decide)
  refine hs_ob (fun b_5 hb_5 => ?_)
  refine hs_bind (hf_X7_open L) (fun r_7 u2' => ?_)
  have u2 : HG false false ad δ r_7 := u1.t ((u2').w (by decide) (by decide))
  refine hs_ob (fun b_8 hb_8 => ?_)
  refine hs_ob (fun b_10 hb_10 => ?_)
  refine hs_ob (fun b_12 hb_12 => ?_)
  refine hs_gd (fun gz3 => ?_)
  refine hs_ob (fun b_14 hb_14 => ?_)
  refine hs_bind (hf_X9_read L (kO_11_3 L k11_a0 hb_8)) (fun r_16 u4' => ?_)
  have u4 : HG false false ad δ r_16 := u2.t ((u4').w (by decide) (by decide))
  refine hs_ob (fun b_17 hb_17 => ?_)
  refine hs_bind (hf_X7_isSound L) (fun r_19 u5' => ?_)
  have u5 : HG false false ad δ r_19.2 := u4.t ((u5').w (by decide) (by decide))
  refine hs_ite (fun _ => ?_) (fun _ => ?_)
  · skip
    refine hs_ob (fun b_24 hb_24 => ?_)
    exact hs_some u5
  · skip
    refine hs_ite (fun _ => ?_) (fun _ => ?_)
    · skip
      refine hs_bdv (fun δ_22 e6 => ?_)
      have u6 : HG false false ad δ δ_22 := HG.I u5 e6 (by decide) (by decide)
      exact hs_some u6
    · skip
      exact hs_some u5
theorem hj_X11_thief_20 {ad : List Nat} {h : hp} (L : Lay TLx ad h) {N : Nat} {a0 : Nat} {x1 : Int32} {as0 : Nat} (k11_a0 : q_K h.1 a0 = 11) (k11_as0 : q_K h.1 as0 = 11) {δ : dp} : hs (J_X11_thief_20 N h.1 a0 x1 as0 δ) (fun r => HG false false ad δ r.2) := by
  unfold J_X11_thief_20
  exact hj_X11_thief_21 L k11_a0 k11_as0
theorem hf_X11_thief {ad : List Nat} {h : hp} (L : Lay TLx ad h) {N : Nat} {a0 : Nat} {x1 : Int32} (k11_a0 : q_K h.1 a0 = 11) {δ : dp} : hs (D_X11_thief N h.1 a0 x1 δ) (fun r => HG false false ad δ r.2) := by
  unfold D_X11_thief
  refine hs_ite (fun _ => ?_) (fun _ => ?_)
  · skip
    exact hj_X11_thief_20 L k11_a0 k11_a0
  · skip
    refine hs_ob (fun b_26 hb_26 => ?_)
    refine hs_ite (fun _ => ?_) (fun _ => ?_)
    · skip
      exact hj_X11_thief_20 L k11_a0 k11_a0
    · skip
      exact hj_X11_thief_21 L k11_a0 k11_a0
theorem hj_X6_readValue_71 {ad : List Nat} {h : hp} (L : Lay TLx ad h) {N : Nat} {a0 : Nat} {a1 : Nat} {x2 : Int32}  {δ : dp} : hs (J_X6_readValue_71 N h.1 a0 a1 x2 δ) (fun r => HG true true ad δ r) := by
  unfold J_X6_readValue_71
  exact hs_some HG_r
theorem hf_X6_readValue {ad : List Nat} {h : hp} (L : Lay TLx ad h) {N : Nat} {a0 : Nat} {a1 : Nat} {x2 : Int32}  {δ : dp} : hs (D_X6_readValue N h.1 a0 a1 x2 δ) (fun r => HG true true ad δ r) := by
  unfold D_X6_readValue
  refine hs_ite (fun _ => ?_) (fun _ => ?_)
  · skip
    refine hs_bind (hf_X7_readNumber L) (fun r_15 u1' => ?_)
    have u1 : HG true true ad δ r_15.2 := u1'
    refine hs_bdv (fun δ_16 e2 => ?_)
    have u2 : HG true true ad δ δ_16 := HG.I u1 e2 (by decide) (by decide)
    exact hs_mono (hj_X6_readValue_71 L) (fun _ hr => u2.t (hr))
  · skip
    refine hs_ite (fun _ => ?_) (fun _ => ?_)
    · skip
      refine hs_bind (hf_X7_readNumber L) (fun r_12 u3' => ?_)
      have u3 : HG true true ad δ r_12.2 := u3'
      refine hs_bdv (fun δ_13 e4 => ?_)
      have u4 : HG true true ad δ δ_13 := HG.I u3 e4 (by decide) (by decide)
      exact hs_mono (hj_X6_readValue_71 L) (fun _ hr => u4.t (hr))
    · skip
      refine hs_bind (hf_X7_readWord L) (fun r_3 u5' => ?_)
      have u5 : HG true true ad δ r_3 := u5'
      refine hs_bind (hf_X7_wordIs L) (fun r_4 u6' => ?_)
      have u6 : HG true true ad δ r_4.2 := u5.t (u6')
      refine hs_gp (fun gk7 => ?_)
      refine hs_bdv (fun δ_5 e8 => ?_)
      have u8 : HG true true ad δ δ_5 := HG.I u6 e8 (by decide) (by decide)
      refine hs_ite (fun _ => ?_) (fun _ => ?_)
      · skip
        refine hs_bind (hf_X7_wordIs L) (fun r_8 u9' => ?_)
        have u9 : HG true true ad δ r_8.2 := u8.t (u9')
        refine hs_ite (fun _ => ?_) (fun _ => ?_)
        · skip
          refine hs_bind (hf_X7_refuse L) (fun r_10 u10' => ?_)
          have u10 : HG true true ad δ r_10 := u9.t (u10')
          exact hs_mono (hj_X6_readValue_71 L) (fun _ hr => u10.t (hr))
        · skip
          exact hs_mono (hj_X6_readValue_71 L) (fun _ hr => u9.t (hr))
      · skip
        exact hs_mono (hj_X6_readValue_71 L) (fun _ hr => u8.t (hr))
theorem hj_X6_readClause_94 {ad : List Nat} {h : hp} (L : Lay TLx ad h) {N : Nat} {a0 : Nat} {a1 : Nat}  {δ : dp} : hs (J_X6_readClause_94 N h.1 a0 a1 δ) (fun r => HG true true ad δ r) := by
  unfold J_X6_readClause_94
  exact hs_some HG_r
theorem hj_X6_readClause_44 {ad : List Nat} {h : hp} (L : Lay TLx ad h) {N : Nat} {a0 : Nat} {a1 : Nat} {xs0 : Int32} (k6_a0 : q_K h.1 a0 = 6) {δ : dp} : hs (J_X6_readClause_44 N h.1 a0 a1 xs0 δ) (fun r => HG true true ad δ r) := by
  unfold J_X6_readClause_44
  refine hs_ite (fun _ => ?_) (fun _ => ?_)
  · skip
    refine hs_bind (hf_X7_refuse L) (fun r_19 u1' => ?_)
    have u1 : HG true true ad δ r_19 := u1'
    exact hs_mono (hj_X6_readClause_94 L) (fun _ hr => u1.t (hr))
  · skip
    refine hs_ob (fun b_9 hb_9 => ?_)
    refine hs_gd (fun gz2 => ?_)
    refine hs_ite (fun _ => ?_) (fun _ => ?_)
    · skip
      refine hs_ob (fun b_12 hb_12 => ?_)
      refine hs_gd (fun gz3 => ?_)
      refine hs_bdv (fun δ_14 e4 => ?_)
      have u4 : HG true true ad δ δ_14 := HG.R HG_r e4 (nrO_6_3 L k6_a0 hb_12)
      refine hs_bind (hf_X6_readValue L) (fun r_16 u5' => ?_)
      have u5 : HG true true ad δ r_16 := u4.t (u5')
      refine hs_bind (hf_X7_needSign L) (fun r_17 u6' => ?_)
      have u6 : HG true true ad δ r_17 := u5.t (u6')
      exact hs_mono (hj_X6_readClause_94 L) (fun _ hr => u6.t (hr))
    · skip
      refine hs_bind (hf_X7_refuse L) (fun r_18 u7' => ?_)
      have u7 : HG true true ad δ r_18 := u7'
      exact hs_mono (hj_X6_readClause_94 L) (fun _ hr => u7.t (hr))
theorem hf_X6_readClause {ad : List Nat} {h : hp} (L : Lay TLx ad h) {N : Nat} {a0 : Nat} {a1 : Nat} (k6_a0 : q_K h.1 a0 = 6) {δ : dp} : hs (D_X6_readClause N h.1 a0 a1 δ) (fun r => HG true true ad δ r) := by
  unfold D_X6_readClause
  refine hs_bind (hf_X7_readWord L) (fun r_1 u1' => ?_)
  have u1 : HG true true ad δ r_1 := u1'
  refine hs_bind (hf_X7_wordIs L) (fun r_2 u2' => ?_)
  have u2 : HG true true ad δ r_2.2 := u1.t (u2')
  refine hs_ite (fun _ => ?_) (fun _ => ?_)
  · skip
    refine hs_bind (hf_X7_wordIs L) (fun r_4 u3' => ?_)
    have u3 : HG true true ad δ r_4.2 := u2.t (u3')
    refine hs_ite (fun _ => ?_) (fun _ => ?_)
    · skip
      refine hs_bind (hf_X7_wordIs L) (fun r_6 u4' => ?_)
      have u4 : HG true true ad δ r_6.2 := u3.t (u4')
      refine hs_ite (fun _ => ?_) (fun _ => ?_)
      · skip
        exact hs_mono (hj_X6_readClause_44 L k6_a0) (fun _ hr => u4.t (hr))
      · skip
        exact hs_mono (hj_X6_readClause_44 L k6_a0) (fun _ hr => u4.t (hr))
    · skip
      exact hs_mono (hj_X6_readClause_44 L k6_a0) (fun _ hr => u3.t (hr))
  · skip
    exact hs_mono (hj_X6_readClause_44 L k6_a0) (fun _ hr => u2.t (hr))
theorem hj_X6_read_71 {ad : List Nat} {h : hp} (L : Lay TLx ad h) {N : Nat} {a0 : Nat} {a1 : Nat}  {δ : dp} : hs (J_X6_read_71 N h.1 a0 a1 δ) (fun r => HG true true ad δ r) := by
  unfold J_X6_read_71
  exact hs_some HG_r
theorem hl_X6_read_38 {ad : List Nat} {h : hp} (L : Lay TLx ad h) {N : Nat} {a0 : Nat} {a1 : Nat} (k6_a0 : q_K h.1 a0 = 6) : ∀ (n : Nat) (x2v : Int32) (δ : dp), hs (L_X6_read_38 N h.1 a0 a1 n x2v δ) (fun r => HG true true ad δ r) := by
  intro n
  induction n with
  | zero => intro x2v δ; unfold L_X6_read_38; exact hs_none
  | succ n ih =>
    intro x2v δ
    unfold L_X6_read_38
    refine hs_ite (fun _ => ?_) (fun _ => ?_)
    · skip
      exact hj_X6_read_71 L
    · skip
      refine hs_bind (hf_X7_isSound L) (fun r_9 u1' => ?_)
      have u1 : HG true true ad δ r_9.2 := u1'
      refine hs_ite (fun _ => ?_) (fun _ => ?_)
      · skip
        exact hs_mono (hj_X6_read_71 L) (fun _ hr => u1.t (hr))
      · skip
        refine hs_bind (hf_X7_ahead L) (fun r_11 u2' => ?_)
        have u2 : HG true true ad δ r_11.2 := u1.t (u2')
        refine hs_ite (fun _ => ?_) (fun _ => ?_)
        · skip
          exact hs_mono (hj_X6_read_71 L) (fun _ hr => u2.t (hr))
        · skip
          refine hs_bind (hf_X6_readClause L k6_a0) (fun r_13 u3' => ?_)
          have u3 : HG true true ad δ r_13 := u2.t (u3')
          refine hs_biv (fun x_14 _ => ?_)
          exact hs_mono (ih x_14 r_13) (fun _ hr => u3.t (hr))
theorem hl_X6_read_18 {ad : List Nat} {h : hp} (L : Lay TLx ad h) {N : Nat} {a0 : Nat} {a1 : Nat} (k6_a0 : q_K h.1 a0 = 6) : ∀ (n : Nat) (x2v : Int32) (δ : dp), hs (L_X6_read_18 N h.1 a0 a1 n x2v δ) (fun r => HG true true ad δ r) := by
  intro n
  induction n with
  | zero => intro x2v δ; unfold L_X6_read_18; exact hs_none
  | succ n ih =>
    intro x2v δ
    unfold L_X6_read_18
    refine hs_ite (fun _ => ?_) (fun _ => ?_)
    · skip
      exact hl_X6_read_38 L k6_a0 N 0 δ
    · skip
      refine hs_ob (fun b_16 hb_16 => ?_)
      refine hs_gd (fun gz1 => ?_)
      refine hs_bdv (fun δ_18 e2 => ?_)
      have u2 : HG true true ad δ δ_18 := HG.R HG_r e2 (nrO_6_3 L k6_a0 hb_16)
      refine hs_biv (fun x_20 _ => ?_)
      exact hs_mono (ih x_20 δ_18) (fun _ hr => u2.t (hr))
theorem hf_X6_read {ad : List Nat} {h : hp} (L : Lay TLx ad h) {N : Nat} {a0 : Nat} {a1 : Nat} (k6_a0 : q_K h.1 a0 = 6) {δ : dp} : hs (D_X6_read N h.1 a0 a1 δ) (fun r => HG true true ad δ r) := by
  unfold D_X6_read
  refine hs_bdv (fun δ_1 e1 => ?_)
  have u1 : HG true true ad δ δ_1 := HG.I HG_r e1 (by decide) (by decide)
  refine hs_bdv (fun δ_3 e2 => ?_)
  have u2 : HG true true ad δ δ_3 := HG.I u1 e2 (by decide) (by decide)
  refine hs_bdv (fun δ_5 e3 => ?_)
  have u3 : HG true true ad δ δ_5 := HG.I u2 e3 (by decide) (by decide)
  exact hs_mono (hl_X6_read_18 L k6_a0 N 0 δ_5) (fun _ hr => u3.t (hr))
theorem hj_X2_refusal_37 {ad : List Nat} {h : hp} (L : Lay TLx ad h) {N : Nat} {a0 : Nat} {x1 : Int32} {x2 : Int32} {xs0 : Int32}  {δ : dp} : hs (J_X2_refusal_37 N h.1 a0 x1 x2 xs0 δ) (fun r => HG true true ad δ r.2) := by
  unfold J_X2_refusal_37
  exact hs_some HG_r
theorem hf_X2_refusal {ad : List Nat} {h : hp} (L : Lay TLx ad h) {N : Nat} {a0 : Nat} {x1 : Int32} {x2 : Int32}  {δ : dp} : hs (D_X2_refusal N h.1 a0 x1 x2 δ) (fun r => HG true true ad δ r.2) := by
  unfold D_X2_refusal
  refine hs_ob (fun b_1 hb_1 => ?_)
  refine hs_ite (fun _ => ?_) (fun _ => ?_)
  · skip
    refine hs_ite (fun _ => ?_) (fun _ => ?_)
    · skip
      exact hj_X2_refusal_37 L
    · skip
      exact hj_X2_refusal_37 L
  · skip
    exact hs_some HG_r
theorem hf_X5_take {ad : List Nat} {h : hp} (L : Lay TLx ad h) {N : Nat} {a0 : Nat} {a1 : Nat}  {δ : dp} : hs (D_X5_take N h.1 a0 a1 δ) (fun r => HG true true ad δ r) := by
  unfold D_X5_take
  refine hs_bdv (fun δ_1 e1 => ?_)
  have u1 : HG true true ad δ δ_1 := HG.I HG_r e1 (by decide) (by decide)
  refine hs_gp (fun gk2 => ?_)
  refine hs_bdv (fun δ_3 e3 => ?_)
  have u3 : HG true true ad δ δ_3 := HG.I u1 e3 (by decide) (by decide)
  refine hs_bdv (fun δ_5 e4 => ?_)
  have u4 : HG true true ad δ δ_5 := HG.I u3 e4 (by decide) (by decide)
  exact hs_some u4
theorem hf_X0_forget {ad : List Nat} {h : hp} (L : Lay TLx ad h) {N : Nat} {a0 : Nat}  {δ : dp} : hs (D_X0_forget N h.1 a0 δ) (fun r => HG true true ad δ r) := by
  unfold D_X0_forget
  refine hs_bdv (fun δ_1 e1 => ?_)
  have u1 : HG true true ad δ δ_1 := HG.I HG_r e1 (by decide) (by decide)
  refine hs_bdv (fun δ_3 e2 => ?_)
  have u2 : HG true true ad δ δ_3 := HG.I u1 e2 (by decide) (by decide)
  exact hs_some u2
theorem hl_X10_forget_2 {ad : List Nat} {h : hp} (L : Lay TLx ad h) {N : Nat} {a0 : Nat} (k10_a0 : q_K h.1 a0 = 10) : ∀ (n : Nat) (x1v : Int32) (δ : dp), hs (L_X10_forget_2 N h.1 a0 n x1v δ) (fun r => HG true true ad δ r) := by
  intro n
  induction n with
  | zero => intro x1v δ; unfold L_X10_forget_2; exact hs_none
  | succ n ih =>
    intro x1v δ
    unfold L_X10_forget_2
    refine hs_ite (fun _ => ?_) (fun _ => ?_)
    · skip
      exact hs_some HG_r
    · skip
      refine hs_ob (fun b_2 hb_2 => ?_)
      refine hs_gd (fun gz1 => ?_)
      refine hs_bdv (fun δ_4 e2 => ?_)
      have u2 : HG true true ad δ δ_4 := HG.R HG_r e2 (nrO_10_3 L k10_a0 hb_2)
      refine hs_biv (fun x_6 _ => ?_)
      exact hs_mono (ih x_6 δ_4) (fun _ hr => u2.t (hr))
theorem hf_X10_forget {ad : List Nat} {h : hp} (L : Lay TLx ad h) {N : Nat} {a0 : Nat} (k10_a0 : q_K h.1 a0 = 10) {δ : dp} : hs (D_X10_forget N h.1 a0 δ) (fun r => HG true true ad δ r) := by
  unfold D_X10_forget
  exact hl_X10_forget_2 L k10_a0 N 0 δ
theorem hf_X4_forget {ad : List Nat} {h : hp} (L : Lay TLx ad h) {N : Nat} {a0 : Nat}  {δ : dp} : hs (D_X4_forget N h.1 a0 δ) (fun r => HG true true ad δ r) := by
  unfold D_X4_forget
  refine hs_bdv (fun δ_1 e1 => ?_)
  have u1 : HG true true ad δ δ_1 := HG.I HG_r e1 (by decide) (by decide)
  exact hs_some u1
