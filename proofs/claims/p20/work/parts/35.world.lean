/-! what the Statement gives of the start (by gen_start.py) -/
theorem sr_0 : Cond.stringRef "HalvingHouse$ShapeText" 43 "wide" ∈ lw_tbl := L_3 143 rfl
theorem sr_1 : Cond.stringRef "HalvingHouse$ShapeText" 48 "upper" ∈ lw_tbl := L_3 196 rfl
theorem sr_2 : Cond.stringRef "HalvingHouse$ShapeText" 50 "ends" ∈ lw_tbl := L_3 197 rfl
theorem sr_3 : Cond.stringRef "HalvingHouse$ShapeText" 66 "more" ∈ lw_tbl := L_3 215 rfl
theorem sr_4 : Cond.stringRef "HalvingHouse$ShapeText" 68 "less" ∈ lw_tbl := L_3 216 rfl
theorem sr_5 : Cond.stringRef "HalvingHouse$ThiefText" 93 "put" ∈ lw_tbl := L_4 44 rfl
theorem sr_6 : Cond.stringRef "HalvingHouse$ThiefText" 95 "drop" ∈ lw_tbl := L_4 46 rfl
theorem sr_7 : Cond.stringRef "HalvingHouse$ThiefText" 97 "has" ∈ lw_tbl := L_4 47 rfl
theorem sr_8 : Cond.stringRef "HalvingHouse$ThiefText" 99 "next" ∈ lw_tbl := L_4 48 rfl
theorem sr_9 : Cond.stringRef "HalvingHouse$ThiefText" 101 "before" ∈ lw_tbl := L_4 49 rfl
theorem sr_10 : Cond.stringRef "HalvingHouse$ThiefText" 74 "times" ∈ lw_tbl := L_4 50 rfl
theorem sr_11 : Cond.stringRef "HalvingHouse$ThiefText" 120 "i" ∈ lw_tbl := L_4 75 rfl
theorem sr_12 : Cond.stringRef "HalvingHouse$ThiefText" 122 "o" ∈ lw_tbl := L_4 76 rfl
theorem sr_13 : Cond.stringRef "HalvingHouse$ThiefText" 129 "last" ∈ lw_tbl := L_4 80 rfl
theorem sr_14 : Cond.stringRef "HalvingHouse$ThiefText" 131 "many" ∈ lw_tbl := L_4 81 rfl
theorem sr_15 : Cond.stringRef "HalvingHouse$ThiefText" 133 "draw" ∈ lw_tbl := L_4 82 rfl
theorem sr_16 : Cond.stringRef "HalvingHouseModel" 171 "wide" ∈ lw_tbl := L_7 151 rfl
theorem sr_17 : Cond.stringRef "HalvingHouseModel" 176 "upper" ∈ lw_tbl := L_7 157 rfl
theorem sr_18 : Cond.stringRef "HalvingHouseModel" 178 "ends" ∈ lw_tbl := L_7 158 rfl
theorem sr_19 : Cond.stringRef "HalvingHouseModel" 186 "more" ∈ lw_tbl := L_7 176 rfl
theorem sr_20 : Cond.stringRef "HalvingHouseModel" 187 "less" ∈ lw_tbl := L_7 177 rfl
theorem sr_21 : Cond.stringRef "HalvingHouseModel" 226 "put" ∈ lw_tbl := L_7 197 rfl
theorem sr_22 : Cond.stringRef "HalvingHouseModel" 228 "drop" ∈ lw_tbl := L_7 198 rfl
theorem sr_23 : Cond.stringRef "HalvingHouseModel" 230 "has" ∈ lw_tbl := L_7 199 rfl
theorem sr_24 : Cond.stringRef "HalvingHouseModel" 232 "next" ∈ lw_tbl := L_7 200 rfl
theorem sr_25 : Cond.stringRef "HalvingHouseModel" 234 "before" ∈ lw_tbl := L_7 201 rfl
theorem sr_26 : Cond.stringRef "HalvingHouseModel" 236 "times" ∈ lw_tbl := L_7 202 rfl
theorem sr_27 : Cond.stringRef "HalvingHouseModel" 211 "i" ∈ lw_tbl := L_7 219 rfl
theorem sr_28 : Cond.stringRef "HalvingHouseModel" 213 "o" ∈ lw_tbl := L_7 220 rfl
theorem sr_29 : Cond.stringRef "HalvingHouseModel" 215 "last" ∈ lw_tbl := L_7 221 rfl
theorem sr_30 : Cond.stringRef "HalvingHouseModel" 217 "many" ∈ lw_tbl := L_7 222 rfl
theorem sr_31 : Cond.stringRef "HalvingHouseModel" 218 "draw" ∈ lw_tbl := L_7 223 rfl
def tm_ (i : Nat) : Term := .string (srl.getD i ("", 0, "", 0)).1 (srl.getD i ("", 0, "", 0)).2.1
def flN : List Cond := flatC (Jvm.Cond.and given_1 narrow_1)
set_option maxRecDepth 100000 in
theorem fl_ex : ∀ i, i < 32 → Cond.exactly (tm_ i) "java/lang/String" ∈ flN := by decide +kernel
set_option maxRecDepth 100000 in
theorem fl_co : ∀ i, i < 16 → Cond.eq (.field (tm_ i) "java/lang/String" "coder" "B") (.int 0) ∈ flN := by decide +kernel
set_option maxRecDepth 100000 in
theorem fl_ar : ∀ i, i < 16 → Cond.arrayOf (.field (tm_ i) "java/lang/String" "value" "[B") .byte ∈ flN := by decide +kernel
set_option maxRecDepth 100000 in
theorem fl_le : ∀ i, i < 16 → Cond.eq (.length (.field (tm_ i) "java/lang/String" "value" "[B")) (.int (Int32.ofNat (tx_n i))) ∈ flN := by decide +kernel
set_option maxRecDepth 100000 in
theorem fl_el : ∀ i, i < 16 → ∀ j, j < tx_n i → Cond.eq (.elem (.field (tm_ i) "java/lang/String" "value" "[B") (.int (Int32.ofNat j))) (.int (tx_b i j)) ∈ flN := by decide +kernel
set_option maxRecDepth 100000 in
theorem fl_eq : ∀ i, i < 16 → Cond.eq (tm_ i) (tm_ (i + 16)) ∈ flN := by decide +kernel
set_option maxRecDepth 100000 in
theorem fl_nc : ∀ t ∈ ncl, Cond.not (.castable t.1 t.2) ∈ flN := by decide +kernel
set_option maxRecDepth 100000 in
theorem fl_z : Cond.isRef (.static Bundle.tN "UNASSIGNED_STACK" Bundle.steD) ∈ flN ∧ Cond.isRef (.static Bundle.tN "SUPPRESSED_SENTINEL" Bundle.listD) ∈ flN ∧ Cond.eq (.static "java/lang/String" "COMPACT_STRINGS" "Z") (.int 1) ∈ flN ∧ Cond.isRef (.static "jdk/internal/util/Preconditions" "SIOOBE_FORMATTER" "Ljava/util/function/BiFunction;") ∈ flN := by decide +kernel
theorem tx_lt : ∀ i, i < 16 → tx_n i < 2 ^ 31 := by decide
set_option maxHeartbeats 4000000 in
set_option maxRecDepth 100000 in
theorem world_K {s : State} {args : Array Value} (hts : ∀ w ∈ lw_tbl, w.before args s = true) : ∃ (zc : Nat → ClassId × (Nat → Nat)) (cy : Nat → ClassId), (∀ (k : Nat) (q : vw_C), vwCl[k]? = some q → u_Kn s q.1 q.2.1 q.2.2 (zc k).1 (zc k).2) ∧ ∀ (k : Nat) (q : ClassId × FieldType), (tys cy)[k]? = some q → ArrOfT s q.1 q.2 ∧ va_RA s q.1 q.2 := by
  have htt : ∀ w ∈ TT, w.before args s = true := fun w h => hts w (List.mem_filter.mp h).1
  obtain ⟨c0, iS0, hz0⟩ := u_known (C := RX0) (T := TX0) (N := 8) (n := 8) htt iw_0 (hts (.instantiable RX0 8) (L_2 93 rfl))
  obtain ⟨c1, iS1, hz1⟩ := u_known (C := RX1) (T := TX1) (N := 16) (n := 16) htt iw_1 (hts (.instantiable RX1 16) (L_1 176 rfl))
  obtain ⟨c2, iS2, hz2⟩ := u_known (C := RX2) (T := TX2) (N := 5) (n := 5) htt iw_2 (hts (.instantiable RX2 5) (L_2 152 rfl))
  obtain ⟨c3, iS3, hz3⟩ := u_known (C := RX3) (T := TX3) (N := 2) (n := 2) htt iw_3 (hts (.instantiable RX3 2) (L_1 148 rfl))
  obtain ⟨c4, iS4, hz4⟩ := u_known (C := RX4) (T := TX4) (N := 20) (n := 20) htt iw_4 (hts (.instantiable RX4 20) (L_1 168 rfl))
  obtain ⟨c5, iS5, hz5⟩ := u_known (C := RX5) (T := TX5) (N := 3) (n := 3) htt iw_5 (hts (.instantiable RX5 3) (L_1 69 rfl))
  obtain ⟨c6, iS6, hz6⟩ := u_known (C := RX6) (T := TX6) (N := 4) (n := 4) htt iw_6 (hts (.instantiable RX6 4) (L_1 93 rfl))
  obtain ⟨c7, iS7, hz7⟩ := u_known (C := RX7) (T := TX7) (N := 7) (n := 7) htt iw_7 (hts (.instantiable RX7 7) (L_1 37 rfl))
  obtain ⟨c8, iS8, hz8⟩ := u_known (C := RX8) (T := TX8) (N := 4) (n := 4) htt iw_8 (hts (.instantiable RX8 4) (L_2 129 rfl))
  obtain ⟨c9, iS9, hz9⟩ := u_known (C := RX9) (T := TX9) (N := 7) (n := 7) htt iw_9 (hts (.instantiable RX9 7) (L_1 116 rfl))
  obtain ⟨c10, iS10, hz10⟩ := u_known (C := RX10) (T := TX10) (N := 7) (n := 7) htt iw_10 (hts (.instantiable RX10 7) (L_2 53 rfl))
  obtain ⟨c11, iS11, hz11⟩ := u_known (C := RX11) (T := TX11) (N := 14) (n := 14) htt iw_11 (hts (.instantiable RX11 14) (L_1 29 rfl))
  obtain ⟨c12, iS12, hz12⟩ := u_known (C := RX12) (T := TX12) (N := 60) (n := 60) htt iw_12 (hts (.instantiable RX12 60) (L_6 166 rfl))
  have ar0 : ∀ ty : FieldType, (Cond.arrayClass ty).before args s = true → (∀ C, ty ≠ .object C) → ∃ cA, ArrOfT s cA ty ∧ va_RA s cA ty := by
    intro ty h hne
    obtain ⟨c, k, comp, h1, h2, h3⟩ := Cond.arrayClass_spec h
    refine ⟨c, fun n z => ⟨fun k h => (by cases h), k, h2, comp, h3⟩, ?_⟩
    cases ty with
    | object C => exact absurd rfl (hne C)
    | _ => exact h1
  have ar1 : ∀ C : String, (Cond.arrayOver (.object C)).before args s = true → ∃ cA, ArrOfT s cA (.object C) ∧ va_RA s cA (.object C) := by
    intro C h
    obtain ⟨comp, c, k, h1, -, h3, h4, h5⟩ := Cond.arrayOver_spec h
    exact ⟨c, fun n z => ⟨fun k h => (by cases h), k, h3, comp, h4⟩, k, comp, h3, h4, h1, h5⟩
  have ar2 : ∀ t : FieldType, (Cond.arrayOver (.array t)).before args s = true → ∃ cA, ArrOfT s cA (.array t) ∧ va_RA s cA (.array t) := by
    intro t h
    obtain ⟨comp, c, k, h1, h3, h4, h5⟩ := Cond.arrayOver_specA h
    exact ⟨c, fun n z => ⟨fun k h => (by cases h), k, h3, comp, h4⟩, h5⟩
  obtain ⟨y0, e0⟩ := ar0 .int (hts _ (L_1 67 rfl)) (fun _ h => by cases h)
  obtain ⟨y1, e1⟩ := ar0 .long (hts _ (L_2 91 rfl)) (fun _ h => by cases h)
  obtain ⟨y2, e2⟩ := ar0 .boolean (hts _ (L_1 114 rfl)) (fun _ h => by cases h)
  obtain ⟨y3, e3⟩ := ar1 RX2 (hts _ (L_1 146 rfl))
  obtain ⟨y4, e4⟩ := ar1 RX8 (hts _ (L_1 144 rfl))
  obtain ⟨y5, e5⟩ := ar2 .int (hts _ (L_2 61 rfl))
  obtain ⟨y6, e6⟩ := ar2 .long (hts _ (L_2 63 rfl))
  refine ⟨fun k => if k = 0 then (c0, iS0) else if k = 1 then (c1, iS1) else if k = 2 then (c2, iS2) else if k = 3 then (c3, iS3) else if k = 4 then (c4, iS4) else if k = 5 then (c5, iS5) else if k = 6 then (c6, iS6) else if k = 7 then (c7, iS7) else if k = 8 then (c8, iS8) else if k = 9 then (c9, iS9) else if k = 10 then (c10, iS10) else if k = 11 then (c11, iS11) else (c12, iS12), fun k => if k = 0 then y0 else if k = 1 then y1 else if k = 2 then y2 else if k = 3 then y3 else if k = 4 then y4 else if k = 5 then y5 else y6, fun k q hq => ?_, fun k q hq => ?_⟩
  · exact match k, hq with
      | 0, hq => by cases hq; exact hz0
      | 1, hq => by cases hq; exact hz1
      | 2, hq => by cases hq; exact hz2
      | 3, hq => by cases hq; exact hz3
      | 4, hq => by cases hq; exact hz4
      | 5, hq => by cases hq; exact hz5
      | 6, hq => by cases hq; exact hz6
      | 7, hq => by cases hq; exact hz7
      | 8, hq => by cases hq; exact hz8
      | 9, hq => by cases hq; exact hz9
      | 10, hq => by cases hq; exact hz10
      | 11, hq => by cases hq; exact hz11
      | 12, hq => by cases hq; exact hz12
      | k + 13, hq => by simp [vwCl] at hq
  · exact match k, hq with
      | 0, hq => by cases hq; exact e0
      | 1, hq => by cases hq; exact e1
      | 2, hq => by cases hq; exact e2
      | 3, hq => by cases hq; exact e3
      | 4, hq => by cases hq; exact e4
      | 5, hq => by cases hq; exact e5
      | 6, hq => by cases hq; exact e6
      | k + 7, hq => by simp [tys] at hq
theorem world_N {s : State} {args : Array Value} (hts : ∀ w ∈ lw_tbl, w.before args s = true) : ∀ w ∈ NW, va_Nw w s := by
  intro w hw
  have h1 := hts w (List.mem_filter.mp hw).1
  have h2 := (List.mem_filter.mp hw).2
  cases w <;> first | exact absurd h2 Bool.false_ne_true | exact va_Nw.of rfl h1
set_option maxHeartbeats 4000000 in
theorem world {s : State} {b L : Nat} {xs : Nat → Int32} (hts : ∀ w ∈ lw_tbl, w.before #[Value.ref b] s = true) (hX : va_X b L xs s s.heap) (hbl : b < s.heap.size) (hgv : (Jvm.Cond.and given_1 narrow_1).before #[Value.ref b] s = true) : ∃ (D : va_G) (cy : Nat → ClassId), va_K D vwCl (tys cy) s ∧ (∀ w ∈ NW, va_Nw w s) ∧ stz D (fun q => s.heap.size ≤ q) s s.heap ∧ srs D s ∧ D.2 102 0 = b ∧ D.2 102 1 = L ∧ ∀ j, Int32.ofNat (D.2 103 j) = xs j := by
  have hs : ∀ c ∈ flN, c.before #[Value.ref b] s = true := flat_of_before _ hgv
  have hA : ∀ a : Nat, a < s.heap.size → ¬ (fun q : Nat => s.heap.size ≤ q) a := fun a h => Nat.not_le.mpr h
  obtain ⟨zc, cy, hz, hy⟩ := world_K hts
  have h0 : ∀ i : Nat, ∃ q : Nat × Nat, i < 16 → (tm_ i).eval #[Value.ref b] s none [] s = some (.ref q.1) ∧ va_O "java/lang/String" q.1 (fun q => s.heap.size ≤ q) s s.heap ∧ va_OF "java/lang/String" "coder" "B" (.int 0) q.1 (fun q => s.heap.size ≤ q) s s.heap ∧ va_OF "java/lang/String" "value" "[B" (.ref q.2) q.1 (fun q => s.heap.size ≤ q) s s.heap ∧ va_T .byte q.2 (tx_n i) (fun j => .int (tx_b i j)) (fun q => s.heap.size ≤ q) s s.heap := by
    intro i
    by_cases hi : i < 16
    · obtain ⟨a, c, cA, kA, q1, q2, q3, q4, q5, q6, -⟩ := Cond.exactly_spec (args := #[Value.ref b]) (first := s) (o := none) (s := s) (idx := []) (t := tm_ i) (cls := "java/lang/String") (hs _ (fl_ex i (by omega)))
      obtain ⟨t, ht, hT⟩ := va_Tof (f := fun j => .int (tx_b i j)) (A := fun q => s.heap.size ≤ q) (tx_lt i hi) (hs _ (fl_ar i hi)) (va_eqt (hs _ (fl_le i hi))) (fun j hj => va_eqt (hs _ (fl_el i hi j hj))) hA
      exact ⟨(a, t), fun _ => ⟨q1, ⟨cA, q3, q5, by rw [q6]; exact q2, hA a (Array.getElem?_eq_some_iff.mp q3).1⟩, vk_OFof q1 (va_eqt (hs _ (fl_co i hi))) hA, vk_OFof q1 ht hA, hT⟩⟩
    · exact ⟨(0, 0), fun h => absurd h hi⟩
  obtain ⟨ad, had⟩ := Classical.axiomOfChoice h0
  refine ⟨(fun k => (zc k).1, fun k j => if k = 100 then (ad j).1 else if k = 101 then (ad j).2 else if k = 102 then (if j = 0 then b else L) else if k = 103 then (xs j).toBitVec.toNat else (zc k).2 j), cy, ⟨fun k q hq => ?_, hy⟩, world_N hts, ⟨?_, ?_, fun i hi => ?_, ?_, ?_, ?_⟩, ⟨fun t ht => ?_, ?_, ?_, ?_, ?_, fun t ht => ?_⟩, rfl, rfl, fun j => ?_⟩
  · have hk : k < 13 := by
      have h1 := (List.getElem?_eq_some_iff.mp hq).1
      exact h1
    have e : (fun j => if k = 100 then (ad j).1 else if k = 101 then (ad j).2 else if k = 102 then (if j = 0 then b else L) else if k = 103 then (xs j).toBitVec.toNat else (zc k).2 j) = (zc k).2 := by
      funext j
      rw [if_neg (by omega), if_neg (by omega), if_neg (by omega), if_neg (by omega)]
    show u_Kn s q.1 q.2.1 q.2.2 (zc k).1 (fun j => if k = 100 then (ad j).1 else if k = 101 then (ad j).2 else if k = 102 then (if j = 0 then b else L) else if k = 103 then (xs j).toBitVec.toNat else (zc k).2 j)
    rw [e]
    exact hz k q hq
  · exact vx_Zqof (hts _ (L_3 85 rfl)) (hts _ (L_1 14 rfl)) (hs _ fl_z.1) hA
  · exact vx_Zqof (hts _ (L_3 87 rfl)) (hts _ (L_1 14 rfl)) (hs _ fl_z.2.1) hA
  · exact (had i hi).2
  · exact va_Zof (hts _ (L_3 157 rfl)) (hts _ (L_1 18 rfl)) (va_eqt (hs _ fl_z.2.2.1)) hA
  · exact va_Zqof (hts _ (L_3 173 rfl)) (hts _ (L_1 20 rfl)) (hs _ fl_z.2.2.2) hA
  · obtain ⟨scr, g1, g2, g3, g4, g5⟩ := hX
    refine ⟨scr, g1, g2, g3, Nat.le_of_eq g4.symm, by rw [g4]; rfl, fun j hj => ?_, Nat.not_le.mpr hbl⟩
    rw [g5 j hj]
    show some (Value.int (xs j)) = some (Value.int (Int32.ofNat (xs j).toBitVec.toNat))
    rw [show Int32.ofNat (xs j).toBitVec.toNat = xs j from Int32.toBitVec.inj (by simp)]
  · have hlow : ∀ i : Nat, i < 16 → (tm_ i).eval #[Value.ref b] s none [] s = some (.ref (ad i).1) := fun i hi => (had i hi).1
    have hup : ∀ i : Nat, i < 16 → (tm_ (i + 16)).eval #[Value.ref b] s none [] s = some (.ref (ad i).1) := fun i hi => va_eqR (hs _ (fl_eq i hi)) (hlow i hi)
    simp only [srl, List.mem_cons, List.not_mem_nil, or_false] at ht
    rcases ht with rfl | rfl | rfl | rfl | rfl | rfl | rfl | rfl | rfl | rfl | rfl | rfl | rfl | rfl | rfl | rfl | rfl | rfl | rfl | rfl | rfl | rfl | rfl | rfl | rfl | rfl | rfl | rfl | rfl | rfl | rfl | rfl
    · exact vk_R.of (hts _ sr_0) (hlow 0 (by decide))
    · exact vk_R.of (hts _ sr_1) (hlow 1 (by decide))
    · exact vk_R.of (hts _ sr_2) (hlow 2 (by decide))
    · exact vk_R.of (hts _ sr_3) (hlow 3 (by decide))
    · exact vk_R.of (hts _ sr_4) (hlow 4 (by decide))
    · exact vk_R.of (hts _ sr_5) (hlow 5 (by decide))
    · exact vk_R.of (hts _ sr_6) (hlow 6 (by decide))
    · exact vk_R.of (hts _ sr_7) (hlow 7 (by decide))
    · exact vk_R.of (hts _ sr_8) (hlow 8 (by decide))
    · exact vk_R.of (hts _ sr_9) (hlow 9 (by decide))
    · exact vk_R.of (hts _ sr_10) (hlow 10 (by decide))
    · exact vk_R.of (hts _ sr_11) (hlow 11 (by decide))
    · exact vk_R.of (hts _ sr_12) (hlow 12 (by decide))
    · exact vk_R.of (hts _ sr_13) (hlow 13 (by decide))
    · exact vk_R.of (hts _ sr_14) (hlow 14 (by decide))
    · exact vk_R.of (hts _ sr_15) (hlow 15 (by decide))
    · exact vk_R.of (hts _ sr_16) (hup 0 (by decide))
    · exact vk_R.of (hts _ sr_17) (hup 1 (by decide))
    · exact vk_R.of (hts _ sr_18) (hup 2 (by decide))
    · exact vk_R.of (hts _ sr_19) (hup 3 (by decide))
    · exact vk_R.of (hts _ sr_20) (hup 4 (by decide))
    · exact vk_R.of (hts _ sr_21) (hup 5 (by decide))
    · exact vk_R.of (hts _ sr_22) (hup 6 (by decide))
    · exact vk_R.of (hts _ sr_23) (hup 7 (by decide))
    · exact vk_R.of (hts _ sr_24) (hup 8 (by decide))
    · exact vk_R.of (hts _ sr_25) (hup 9 (by decide))
    · exact vk_R.of (hts _ sr_26) (hup 10 (by decide))
    · exact vk_R.of (hts _ sr_27) (hup 11 (by decide))
    · exact vk_R.of (hts _ sr_28) (hup 12 (by decide))
    · exact vk_R.of (hts _ sr_29) (hup 13 (by decide))
    · exact vk_R.of (hts _ sr_30) (hup 14 (by decide))
    · exact vk_R.of (hts _ sr_31) (hup 15 (by decide))
  · exact va_AO.of (hts _ (L_1 146 rfl))
  · exact va_AO.of (hts _ (L_1 144 rfl))
  · exact hts _ (L_2 61 rfl)
  · exact hts _ (L_2 63 rfl)
  · exact va_Nc.of (hs _ (fl_nc t ht))
  · exact Int32.toBitVec.inj (by simp)
