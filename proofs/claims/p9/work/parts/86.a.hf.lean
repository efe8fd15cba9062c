/-! what the class's calls leave untouched: houses, images, q_V, refusals (by gen_frame.py) -/
def hcl : List Nat := [76, 82, 88, 94]
def PRS : List Nat := [56, 57, 58, 77, 78, 79, 83, 84, 85, 89, 90, 91, 95, 96, 97]
def HG (v s : Bool) (ad : List Nat) (δ δ1 : dp) : Prop := ((∀ i ∈ hcl, q_I δ1 3 1 (Ad ad i) = q_I δ 3 1 (Ad ad i)) ∧ (∀ a, q_I δ1 2 4 a = q_I δ 2 4 a) ∧ ∀ i ∈ PRS, q_R δ1 (Ad ad i) = q_R δ (Ad ad i)) ∧ (v = true → q_V δ1 = q_V δ) ∧ (s = true → q_R δ1 (Ad ad 59) = q_R δ (Ad ad 59))
def nh (ad : List Nat) (a : Nat) : Prop := ∀ i ∈ hcl, Ad ad i ≠ a
def nq (ad : List Nat) (b : Nat) : Prop := ∀ i ∈ PRS, Ad ad i ≠ b
def nr (ad : List Nat) (b : Nat) : Prop := nq ad b ∧ Ad ad 59 ≠ b
def VT (g : gp) (δ : dp) : Prop := ∀ a b, q_K g a = 9 → q_V δ 9 1 a = some b → q_K g b = 8
theorem VT_k {g : gp} {δ δ1 : dp} (h : VT g δ) (e : q_V δ1 = q_V δ) : VT g δ1 := fun a b ha hb => h a b ha (by rw [← e]; exact hb)
theorem HG_r {v s : Bool} {ad : List Nat} {δ : dp} : HG v s ad δ δ := ⟨⟨fun _ _ => rfl, fun _ => rfl, fun _ _ => rfl⟩, fun _ => rfl, fun _ => rfl⟩
theorem HG.t {v s : Bool} {ad : List Nat} {δ δ1 δ2 : dp} (h : HG v s ad δ δ1) (k : HG v s ad δ1 δ2) : HG v s ad δ δ2 := ⟨⟨fun i hi => (k.1.1 i hi).trans (h.1.1 i hi), fun a => (k.1.2.1 a).trans (h.1.2.1 a), fun i hi => (k.1.2.2 i hi).trans (h.1.2.2 i hi)⟩, fun e => (k.2.1 e).trans (h.2.1 e), fun e => (k.2.2 e).trans (h.2.2 e)⟩
theorem HG.w {v s v1 s1 : Bool} {ad : List Nat} {δ δ1 : dp} (h : HG v s ad δ δ1) (hv : v1 = true → v = true) (hs : s1 = true → s = true) : HG v1 s1 ad δ δ1 := ⟨h.1, fun e => h.2.1 (hv e), fun e => h.2.2 (hs e)⟩
theorem HG.I {v s : Bool} {ad : List Nat} {δ δ1 δ2 : dp} {c k a : Nat} {x : Int32} (h : HG v s ad δ δ1) (e : δ2 = s_I δ1 c k a x) (n1 : ¬ (3 = c ∧ 1 = k)) (n2 : ¬ (2 = c ∧ 4 = k)) : HG v s ad δ δ2 := h.t ⟨⟨fun i _ => by rw [e]; exact rI_o n1, fun a => by rw [e]; exact rI_o n2, fun i _ => by rw [e]; rfl⟩, fun _ => by rw [e]; rfl, fun _ => by rw [e]; rfl⟩
theorem HG.M {v s : Bool} {ad : List Nat} {δ δ1 δ2 : dp} {a : Nat} {x : Int32} (h : HG v s ad δ δ1) (e : δ2 = s_I δ1 3 1 a x) (n : nh ad a) : HG v s ad δ δ2 := h.t ⟨⟨fun i hi => by rw [e, qI_sI, if_neg (fun z => n i hi z.2.2)], fun a => by rw [e]; exact rI_o (by decide), fun i _ => by rw [e]; rfl⟩, fun _ => by rw [e]; rfl, fun _ => by rw [e]; rfl⟩
theorem HG.R {v s : Bool} {ad : List Nat} {δ δ1 δ2 : dp} {b i : Nat} {x : Int32} (h : HG v s ad δ δ1) (e : δ2 = s_R δ1 b i x) (n : nr ad b) : HG v s ad δ δ2 := h.t ⟨⟨fun i _ => by rw [e]; rfl, fun a => by rw [e]; rfl, fun i hi => by rw [e]; exact rR_o (n.1 i hi)⟩, fun _ => by rw [e]; rfl, fun _ => by rw [e]; exact rR_o n.2⟩
theorem HG.Z {v : Bool} {ad : List Nat} {δ δ1 δ2 : dp} {b i : Nat} {x : Int32} (h : HG v false ad δ δ1) (e : δ2 = s_R δ1 b i x) (n : nq ad b) : HG v false ad δ δ2 := h.t ⟨⟨fun i _ => by rw [e]; rfl, fun a => by rw [e]; rfl, fun i hi => by rw [e]; exact rR_o (n i hi)⟩, fun _ => by rw [e]; rfl, fun z => absurd z (by decide)⟩
theorem HG.C {v s : Bool} {ad : List Nat} {δ δ1 δ2 : dp} {a b i j n : Nat} (h : HG v s ad δ δ1) (e : δ2 = s_C δ1 a b i j n) (nn : nr ad b) : HG v s ad δ δ2 := h.t ⟨⟨fun i _ => by rw [e]; rfl, fun a => by rw [e]; rfl, fun i hi => by rw [e]; exact va_up_ne _ _ (nn.1 i hi)⟩, fun _ => by rw [e]; rfl, fun _ => by rw [e]; exact va_up_ne _ _ nn.2⟩
theorem HG.J {v s : Bool} {ad : List Nat} {δ δ1 δ2 : dp} {a i : Nat} {x : Int64} (h : HG v s ad δ δ1) (e : δ2 = s_J δ1 a i x) : HG v s ad δ δ2 := h.t ⟨⟨fun i _ => by rw [e]; rfl, fun a => by rw [e]; rfl, fun i hi => by rw [e]; rfl⟩, fun _ => by rw [e]; rfl, fun _ => by rw [e]; rfl⟩
theorem HG.V {s : Bool} {ad : List Nat} {δ δ1 δ2 : dp} {c k a : Nat} {x : Option Nat} (h : HG false s ad δ δ1) (e : δ2 = s_V δ1 c k a x) : HG false s ad δ δ2 := h.t ⟨⟨fun i _ => by rw [e]; rfl, fun a => by rw [e]; rfl, fun i hi => by rw [e]; rfl⟩, fun z => absurd z (by decide), fun _ => by rw [e]; rfl⟩
theorem nq_i {ad : List Nat} {h : hp} (L : Lay TLx ad h) {i : Nat} (hi : i < 128) (hn : i ∉ PRS) : nq ad (Ad ad i) := fun j hj => ad_ne L ((by decide : ∀ j ∈ PRS, j < 128) j hj) hi (fun e => hn (e ▸ hj))
theorem nr_i {ad : List Nat} {h : hp} (L : Lay TLx ad h) {i : Nat} (hi : i < 128) (hn : i ∉ 59 :: PRS) : nr ad (Ad ad i) := ⟨nq_i L hi (fun z => hn (List.mem_cons_of_mem _ z)), ad_ne L (by decide) hi (fun e => hn (e ▸ List.mem_cons_self))⟩
theorem nh_i {ad : List Nat} {h : hp} (L : Lay TLx ad h) {i : Nat} (hi : i < 128) (hn : i ∉ hcl) : nh ad (Ad ad i) := fun j hj => ad_ne L ((by decide : ∀ j ∈ hcl, j < 128) j hj) hi (fun e => hn (e ▸ hj))
theorem nr3 {ad : List Nat} {h : hp} (L : Lay TLx ad h) {a b : Nat} (ka : q_K h.1 a = 3 ∧ nh ad a) (hb : q_O h.1 3 0 a = some b) : nr ad b := by
  obtain ⟨ka, n⟩ := ka
  obtain ⟨i, hi, rfl⟩ := lay_cel L (by rw [ka]; decide)
  rw [lay_knd L hi] at ka
  have H : ∀ i : Fin 128, knd i.val = 3 → i.val ∈ [11, 14, 20, 43, 76, 82, 88, 94] := by decide +kernel
  have hm := H ⟨i, hi⟩ ka
  simp only [List.mem_cons, List.not_mem_nil, or_false] at hm
  rcases hm with rfl | rfl | rfl | rfl | rfl | rfl | rfl | rfl
  · rw [fO_11_0 L] at hb; obtain rfl := Option.some.inj hb; exact nr_i L (by decide) (by decide)
  · rw [fO_14_0 L] at hb; obtain rfl := Option.some.inj hb; exact nr_i L (by decide) (by decide)
  · rw [fO_20_0 L] at hb; obtain rfl := Option.some.inj hb; exact nr_i L (by decide) (by decide)
  · rw [fO_43_0 L] at hb; obtain rfl := Option.some.inj hb; exact nr_i L (by decide) (by decide)
  · exact absurd rfl (n 76 (by decide))
  · exact absurd rfl (n 82 (by decide))
  · exact absurd rfl (n 88 (by decide))
  · exact absurd rfl (n 94 (by decide))
theorem hs_ob {β : Type} {o : Option Nat} {f : Nat → Option β} {Q : β → Prop} (k : ∀ b, o = some b → hs (f b) Q) : hs (o.bind f) Q := by
  cases o with
  | none => exact hs_none
  | some b => exact k b rfl
theorem hs_blv {ρ : Type} {v : Int64} {f : Int64 → Option ρ} {Q : ρ → Prop} (k : ∀ x, x = v → hs (f x) Q) : hs (bl v f) Q := k v rfl
theorem hs_bx {ρ : Type} {o : Option ((Int32 ⊕ Nat) × dp)} {tw : Nat → dp → ρ} {f : Int32 → dp → Option ρ} {P : (Int32 ⊕ Nat) × dp → Prop} {Q : ρ → Prop} (h : hs o P) (k1 : ∀ n δ, P (.inr n, δ) → Q (tw n δ)) (k2 : ∀ v δ, P (.inl v, δ) → hs (f v δ) Q) : hs (bx o tw f) Q := by
  cases o with
  | none => exact hs_none
  | some r =>
    have hp := h r rfl
    obtain ⟨v | n, d⟩ := r
    · exact k2 v d hp
    · exact hs_some (k1 n d hp)
theorem nq_11_13 {ad : List Nat} {h : hp} (L : Lay TLx ad h) {a b : Nat} (ka : q_K h.1 a = 11) (hb : q_O h.1 11 13 a = some b) : nq ad b := by
  obtain ⟨i, hi, rfl⟩ := lay_cel L (by rw [ka]; decide)
  rw [lay_knd L hi] at ka
  have H : ∀ i : Fin 128, knd i.val = 11 → i.val ∈ [0] := by decide +kernel
  have hm := H ⟨i, hi⟩ ka
  simp only [List.mem_cons, List.not_mem_nil, or_false] at hm
  rcases hm with rfl
  · rw [fO_0_13 L] at hb; obtain rfl := Option.some.inj hb; exact nq_i L (by decide) (by decide)
theorem nrE_10_4 {ad : List Nat} {h : hp} (L : Lay TLx ad h) {a b e z : Nat} (ka : q_K h.1 a = 10) (hb : q_O h.1 10 4 a = some b) (hz : z < q_N h.1 b) (he : q_E h.1 b z = some e) : nr ad e := by
  obtain ⟨i, hi, rfl⟩ := lay_cel L (by rw [ka]; decide)
  rw [lay_knd L hi] at ka
  have H : ∀ i : Fin 128, knd i.val = 10 → i.val ∈ [19] := by decide +kernel
  have hm := H ⟨i, hi⟩ ka
  simp only [List.mem_cons, List.not_mem_nil, or_false] at hm
  rcases hm with rfl
  · rw [fO_19_4 L] at hb
    obtain rfl := Option.some.inj hb
    rw [fN_23 L] at hz
    rcases (show z = 0 ∨ z = 1 ∨ z = 2 ∨ z = 3 ∨ z = 4 by omega) with rfl | rfl | rfl | rfl | rfl
    · rw [fE_23_0 L] at he; obtain rfl := Option.some.inj he; exact nr_i L (by decide) (by decide)
    · rw [fE_23_1 L] at he; obtain rfl := Option.some.inj he; exact nr_i L (by decide) (by decide)
    · rw [fE_23_2 L] at he; obtain rfl := Option.some.inj he; exact nr_i L (by decide) (by decide)
    · rw [fE_23_3 L] at he; obtain rfl := Option.some.inj he; exact nr_i L (by decide) (by decide)
    · rw [fE_23_4 L] at he; obtain rfl := Option.some.inj he; exact nr_i L (by decide) (by decide)
theorem nrE_10_5 {ad : List Nat} {h : hp} (L : Lay TLx ad h) {a b e z : Nat} (ka : q_K h.1 a = 10) (hb : q_O h.1 10 5 a = some b) (hz : z < q_N h.1 b) (he : q_E h.1 b z = some e) : nr ad e := by
  obtain ⟨i, hi, rfl⟩ := lay_cel L (by rw [ka]; decide)
  rw [lay_knd L hi] at ka
  have H : ∀ i : Fin 128, knd i.val = 10 → i.val ∈ [19] := by decide +kernel
  have hm := H ⟨i, hi⟩ ka
  simp only [List.mem_cons, List.not_mem_nil, or_false] at hm
  rcases hm with rfl
  · rw [fO_19_5 L] at hb
    obtain rfl := Option.some.inj hb
    rw [fN_29 L] at hz
    rcases (show z = 0 ∨ z = 1 ∨ z = 2 ∨ z = 3 ∨ z = 4 by omega) with rfl | rfl | rfl | rfl | rfl
    · rw [fE_29_0 L] at he; obtain rfl := Option.some.inj he; exact nr_i L (by decide) (by decide)
    · rw [fE_29_1 L] at he; obtain rfl := Option.some.inj he; exact nr_i L (by decide) (by decide)
    · rw [fE_29_2 L] at he; obtain rfl := Option.some.inj he; exact nr_i L (by decide) (by decide)
    · rw [fE_29_3 L] at he; obtain rfl := Option.some.inj he; exact nr_i L (by decide) (by decide)
    · rw [fE_29_4 L] at he; obtain rfl := Option.some.inj he; exact nr_i L (by decide) (by decide)
theorem c3O_10_1 {ad : List Nat} {h : hp} (L : Lay TLx ad h) {a b : Nat} (ka : q_K h.1 a = 10) (hb : q_O h.1 10 1 a = some b) : q_K h.1 b = 3 ∧ nh ad b := by
  obtain ⟨i, hi, rfl⟩ := lay_cel L (by rw [ka]; decide)
  rw [lay_knd L hi] at ka
  have H : ∀ i : Fin 128, knd i.val = 10 → i.val ∈ [19] := by decide +kernel
  have hm := H ⟨i, hi⟩ ka
  simp only [List.mem_cons, List.not_mem_nil, or_false] at hm
  rcases hm with rfl
  · rw [fO_19_1 L] at hb; obtain rfl := Option.some.inj hb; exact ⟨(lay_knd L (by decide)).trans (by decide), nh_i L (by decide) (by decide)⟩
theorem nrO_10_3 {ad : List Nat} {h : hp} (L : Lay TLx ad h) {a b : Nat} (ka : q_K h.1 a = 10) (hb : q_O h.1 10 3 a = some b) : nr ad b := by
  obtain ⟨i, hi, rfl⟩ := lay_cel L (by rw [ka]; decide)
  rw [lay_knd L hi] at ka
  have H : ∀ i : Fin 128, knd i.val = 10 → i.val ∈ [19] := by decide +kernel
  have hm := H ⟨i, hi⟩ ka
  simp only [List.mem_cons, List.not_mem_nil, or_false] at hm
  rcases hm with rfl
  · rw [fO_19_3 L] at hb; obtain rfl := Option.some.inj hb; exact nr_i L (by decide) (by decide)
theorem kO_11_9 {ad : List Nat} {h : hp} (L : Lay TLx ad h) {a b : Nat} (ka : q_K h.1 a = 11) (hb : q_O h.1 11 9 a = some b) : q_K h.1 b = 10 := by
  obtain ⟨i, hi, rfl⟩ := lay_cel L (by rw [ka]; decide)
  rw [lay_knd L hi] at ka
  have H : ∀ i : Fin 128, knd i.val = 11 → i.val ∈ [0] := by decide +kernel
  have hm := H ⟨i, hi⟩ ka
  simp only [List.mem_cons, List.not_mem_nil, or_false] at hm
  rcases hm with rfl
  · rw [fO_0_9 L] at hb; obtain rfl := Option.some.inj hb; exact (lay_knd L (by decide)).trans (by decide)
theorem c3O_11_7 {ad : List Nat} {h : hp} (L : Lay TLx ad h) {a b : Nat} (ka : q_K h.1 a = 11) (hb : q_O h.1 11 7 a = some b) : q_K h.1 b = 3 ∧ nh ad b := by
  obtain ⟨i, hi, rfl⟩ := lay_cel L (by rw [ka]; decide)
  rw [lay_knd L hi] at ka
  have H : ∀ i : Fin 128, knd i.val = 11 → i.val ∈ [0] := by decide +kernel
  have hm := H ⟨i, hi⟩ ka
  simp only [List.mem_cons, List.not_mem_nil, or_false] at hm
  rcases hm with rfl
  · rw [fO_0_7 L] at hb; obtain rfl := Option.some.inj hb; exact ⟨(lay_knd L (by decide)).trans (by decide), nh_i L (by decide) (by decide)⟩
theorem c3O_4_1 {ad : List Nat} {h : hp} (L : Lay TLx ad h) {a b : Nat} (ka : q_K h.1 a = 4) (hb : q_O h.1 4 1 a = some b) : q_K h.1 b = 3 ∧ nh ad b := by
  obtain ⟨i, hi, rfl⟩ := lay_cel L (by rw [ka]; decide)
  rw [lay_knd L hi] at ka
  have H : ∀ i : Fin 128, knd i.val = 4 → i.val ∈ [13] := by decide +kernel
  have hm := H ⟨i, hi⟩ ka
  simp only [List.mem_cons, List.not_mem_nil, or_false] at hm
  rcases hm with rfl
  · rw [fO_13_1 L] at hb; obtain rfl := Option.some.inj hb; exact ⟨(lay_knd L (by decide)).trans (by decide), nh_i L (by decide) (by decide)⟩
theorem nrO_4_3 {ad : List Nat} {h : hp} (L : Lay TLx ad h) {a b : Nat} (ka : q_K h.1 a = 4) (hb : q_O h.1 4 3 a = some b) : nr ad b := by
  obtain ⟨i, hi, rfl⟩ := lay_cel L (by rw [ka]; decide)
  rw [lay_knd L hi] at ka
  have H : ∀ i : Fin 128, knd i.val = 4 → i.val ∈ [13] := by decide +kernel
  have hm := H ⟨i, hi⟩ ka
  simp only [List.mem_cons, List.not_mem_nil, or_false] at hm
  rcases hm with rfl
  · rw [fO_13_3 L] at hb; obtain rfl := Option.some.inj hb; exact nr_i L (by decide) (by decide)
theorem nrO_4_4 {ad : List Nat} {h : hp} (L : Lay TLx ad h) {a b : Nat} (ka : q_K h.1 a = 4) (hb : q_O h.1 4 4 a = some b) : nr ad b := by
  obtain ⟨i, hi, rfl⟩ := lay_cel L (by rw [ka]; decide)
  rw [lay_knd L hi] at ka
  have H : ∀ i : Fin 128, knd i.val = 4 → i.val ∈ [13] := by decide +kernel
  have hm := H ⟨i, hi⟩ ka
  simp only [List.mem_cons, List.not_mem_nil, or_false] at hm
  rcases hm with rfl
  · rw [fO_13_4 L] at hb; obtain rfl := Option.some.inj hb; exact nr_i L (by decide) (by decide)
theorem kO_11_8 {ad : List Nat} {h : hp} (L : Lay TLx ad h) {a b : Nat} (ka : q_K h.1 a = 11) (hb : q_O h.1 11 8 a = some b) : q_K h.1 b = 4 := by
  obtain ⟨i, hi, rfl⟩ := lay_cel L (by rw [ka]; decide)
  rw [lay_knd L hi] at ka
  have H : ∀ i : Fin 128, knd i.val = 11 → i.val ∈ [0] := by decide +kernel
  have hm := H ⟨i, hi⟩ ka
  simp only [List.mem_cons, List.not_mem_nil, or_false] at hm
  rcases hm with rfl
  · rw [fO_0_8 L] at hb; obtain rfl := Option.some.inj hb; exact (lay_knd L (by decide)).trans (by decide)
theorem nrE_0_3 {ad : List Nat} {h : hp} (L : Lay TLx ad h) {a b e z : Nat} (ka : q_K h.1 a = 0) (hb : q_O h.1 0 3 a = some b) (hz : z < q_N h.1 b) (he : q_E h.1 b z = some e) : nr ad e := by
  obtain ⟨i, hi, rfl⟩ := lay_cel L (by rw [ka]; decide)
  rw [lay_knd L hi] at ka
  have H : ∀ i : Fin 128, knd i.val = 0 → i.val ∈ [42] := by decide +kernel
  have hm := H ⟨i, hi⟩ ka
  simp only [List.mem_cons, List.not_mem_nil, or_false] at hm
  rcases hm with rfl
  · rw [fO_42_3 L] at hb
    obtain rfl := Option.some.inj hb
    rw [fN_45 L] at hz
    rcases (show z = 0 ∨ z = 1 ∨ z = 2 ∨ z = 3 ∨ z = 4 ∨ z = 5 ∨ z = 6 by omega) with rfl | rfl | rfl | rfl | rfl | rfl | rfl
    · rw [fE_45_0 L] at he; obtain rfl := Option.some.inj he; exact nr_i L (by decide) (by decide)
    · rw [fE_45_1 L] at he; obtain rfl := Option.some.inj he; exact nr_i L (by decide) (by decide)
    · rw [fE_45_2 L] at he; obtain rfl := Option.some.inj he; exact nr_i L (by decide) (by decide)
    · rw [fE_45_3 L] at he; obtain rfl := Option.some.inj he; exact nr_i L (by decide) (by decide)
    · rw [fE_45_4 L] at he; obtain rfl := Option.some.inj he; exact nr_i L (by decide) (by decide)
    · rw [fE_45_5 L] at he; obtain rfl := Option.some.inj he; exact nr_i L (by decide) (by decide)
    · rw [fE_45_6 L] at he; obtain rfl := Option.some.inj he; exact nr_i L (by decide) (by decide)
theorem c3O_0_1 {ad : List Nat} {h : hp} (L : Lay TLx ad h) {a b : Nat} (ka : q_K h.1 a = 0) (hb : q_O h.1 0 1 a = some b) : q_K h.1 b = 3 ∧ nh ad b := by
  obtain ⟨i, hi, rfl⟩ := lay_cel L (by rw [ka]; decide)
  rw [lay_knd L hi] at ka
  have H : ∀ i : Fin 128, knd i.val = 0 → i.val ∈ [42] := by decide +kernel
  have hm := H ⟨i, hi⟩ ka
  simp only [List.mem_cons, List.not_mem_nil, or_false] at hm
  rcases hm with rfl
  · rw [fO_42_1 L] at hb; obtain rfl := Option.some.inj hb; exact ⟨(lay_knd L (by decide)).trans (by decide), nh_i L (by decide) (by decide)⟩
theorem nrO_0_5 {ad : List Nat} {h : hp} (L : Lay TLx ad h) {a b : Nat} (ka : q_K h.1 a = 0) (hb : q_O h.1 0 5 a = some b) : nr ad b := by
  obtain ⟨i, hi, rfl⟩ := lay_cel L (by rw [ka]; decide)
  rw [lay_knd L hi] at ka
  have H : ∀ i : Fin 128, knd i.val = 0 → i.val ∈ [42] := by decide +kernel
  have hm := H ⟨i, hi⟩ ka
  simp only [List.mem_cons, List.not_mem_nil, or_false] at hm
  rcases hm with rfl
  · rw [fO_42_5 L] at hb; obtain rfl := Option.some.inj hb; exact nr_i L (by decide) (by decide)
theorem kO_11_10 {ad : List Nat} {h : hp} (L : Lay TLx ad h) {a b : Nat} (ka : q_K h.1 a = 11) (hb : q_O h.1 11 10 a = some b) : q_K h.1 b = 0 := by
  obtain ⟨i, hi, rfl⟩ := lay_cel L (by rw [ka]; decide)
  rw [lay_knd L hi] at ka
  have H : ∀ i : Fin 128, knd i.val = 11 → i.val ∈ [0] := by decide +kernel
  have hm := H ⟨i, hi⟩ ka
  simp only [List.mem_cons, List.not_mem_nil, or_false] at hm
  rcases hm with rfl
  · rw [fO_0_10 L] at hb; obtain rfl := Option.some.inj hb; exact (lay_knd L (by decide)).trans (by decide)
theorem nrO_8_0 {ad : List Nat} {h : hp} (L : Lay TLx ad h) {a b : Nat} (ka : q_K h.1 a = 8) (hb : q_O h.1 8 0 a = some b) : nr ad b := by
  obtain ⟨i, hi, rfl⟩ := lay_cel L (by rw [ka]; decide)
  rw [lay_knd L hi] at ka
  have H : ∀ i : Fin 128, knd i.val = 8 → i.val ∈ [60, 63, 66, 69, 72] := by decide +kernel
  have hm := H ⟨i, hi⟩ ka
  simp only [List.mem_cons, List.not_mem_nil, or_false] at hm
  rcases hm with rfl | rfl | rfl | rfl | rfl
  · rw [fO_60_0 L] at hb; obtain rfl := Option.some.inj hb; exact nr_i L (by decide) (by decide)
  · rw [fO_63_0 L] at hb; obtain rfl := Option.some.inj hb; exact nr_i L (by decide) (by decide)
  · rw [fO_66_0 L] at hb; obtain rfl := Option.some.inj hb; exact nr_i L (by decide) (by decide)
  · rw [fO_69_0 L] at hb; obtain rfl := Option.some.inj hb; exact nr_i L (by decide) (by decide)
  · rw [fO_72_0 L] at hb; obtain rfl := Option.some.inj hb; exact nr_i L (by decide) (by decide)
theorem nrO_8_1 {ad : List Nat} {h : hp} (L : Lay TLx ad h) {a b : Nat} (ka : q_K h.1 a = 8) (hb : q_O h.1 8 1 a = some b) : nr ad b := by
  obtain ⟨i, hi, rfl⟩ := lay_cel L (by rw [ka]; decide)
  rw [lay_knd L hi] at ka
  have H : ∀ i : Fin 128, knd i.val = 8 → i.val ∈ [60, 63, 66, 69, 72] := by decide +kernel
  have hm := H ⟨i, hi⟩ ka
  simp only [List.mem_cons, List.not_mem_nil, or_false] at hm
  rcases hm with rfl | rfl | rfl | rfl | rfl
  · rw [fO_60_1 L] at hb; obtain rfl := Option.some.inj hb; exact nr_i L (by decide) (by decide)
  · rw [fO_63_1 L] at hb; obtain rfl := Option.some.inj hb; exact nr_i L (by decide) (by decide)
  · rw [fO_66_1 L] at hb; obtain rfl := Option.some.inj hb; exact nr_i L (by decide) (by decide)
  · rw [fO_69_1 L] at hb; obtain rfl := Option.some.inj hb; exact nr_i L (by decide) (by decide)
  · rw [fO_72_1 L] at hb; obtain rfl := Option.some.inj hb; exact nr_i L (by decide) (by decide)
theorem nrO_9_5 {ad : List Nat} {h : hp} (L : Lay TLx ad h) {a b : Nat} (ka : q_K h.1 a = 9) (hb : q_O h.1 9 5 a = some b) : nr ad b := by
  obtain ⟨i, hi, rfl⟩ := lay_cel L (by rw [ka]; decide)
  rw [lay_knd L hi] at ka
  have H : ∀ i : Fin 128, knd i.val = 9 → i.val ∈ [6] := by decide +kernel
  have hm := H ⟨i, hi⟩ ka
  simp only [List.mem_cons, List.not_mem_nil, or_false] at hm
  rcases hm with rfl
  · rw [fO_6_5 L] at hb; obtain rfl := Option.some.inj hb; exact nr_i L (by decide) (by decide)
theorem nrO_9_6 {ad : List Nat} {h : hp} (L : Lay TLx ad h) {a b : Nat} (ka : q_K h.1 a = 9) (hb : q_O h.1 9 6 a = some b) : nr ad b := by
  obtain ⟨i, hi, rfl⟩ := lay_cel L (by rw [ka]; decide)
  rw [lay_knd L hi] at ka
  have H : ∀ i : Fin 128, knd i.val = 9 → i.val ∈ [6] := by decide +kernel
  have hm := H ⟨i, hi⟩ ka
  simp only [List.mem_cons, List.not_mem_nil, or_false] at hm
  rcases hm with rfl
  · rw [fO_6_6 L] at hb; obtain rfl := Option.some.inj hb; exact nr_i L (by decide) (by decide)
theorem kO_11_3 {ad : List Nat} {h : hp} (L : Lay TLx ad h) {a b : Nat} (ka : q_K h.1 a = 11) (hb : q_O h.1 11 3 a = some b) : q_K h.1 b = 9 := by
  obtain ⟨i, hi, rfl⟩ := lay_cel L (by rw [ka]; decide)
  rw [lay_knd L hi] at ka
  have H : ∀ i : Fin 128, knd i.val = 11 → i.val ∈ [0] := by decide +kernel
  have hm := H ⟨i, hi⟩ ka
  simp only [List.mem_cons, List.not_mem_nil, or_false] at hm
  rcases hm with rfl
  · rw [fO_0_3 L] at hb; obtain rfl := Option.some.inj hb; exact (lay_knd L (by decide)).trans (by decide)
theorem nrO_6_3 {ad : List Nat} {h : hp} (L : Lay TLx ad h) {a b : Nat} (ka : q_K h.1 a = 6) (hb : q_O h.1 6 3 a = some b) : nr ad b := by
  obtain ⟨i, hi, rfl⟩ := lay_cel L (by rw [ka]; decide)
  rw [lay_knd L hi] at ka
  have H : ∀ i : Fin 128, knd i.val = 6 → i.val ∈ [4] := by decide +kernel
  have hm := H ⟨i, hi⟩ ka
  simp only [List.mem_cons, List.not_mem_nil, or_false] at hm
  rcases hm with rfl
  · rw [fO_4_3 L] at hb; obtain rfl := Option.some.inj hb; exact nr_i L (by decide) (by decide)
