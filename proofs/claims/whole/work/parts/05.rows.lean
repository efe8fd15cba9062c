/-! rows of AW, one an instruction, over the kit's rows (by gen_rows.py) -/
def emk (z : (Option Value ⊕ String) × dp) (P : Option Value → hp → Prop) (X : String → hp → Prop) (g : gp) : Prop := match z.1 with
  | .inl v => P v (g, z.2)
  | .inr E => X E (g, z.2)
/-- the value o of a run: if it is some, the machine comes there -/
def AWD (l : Launch) (D : va_G) (cy : Nat → ClassId) (μ : mth) (d rc rs : Nat) {ρ : Type} (em : ρ → (Option Value ⊕ String) × dp) (g : gp) (pc : Nat) (lv : List (Nat × Value)) (st : List Value) (δ : dp) (o : Option ρ) : Prop :=
  ∀ r : ρ, o = some r → ∀ (P : Option Value → hp → Prop) (X : String → hp → Prop), emk (em r) P X g → AW l D cy μ d rc rs P X pc lv st (g, δ)
section RW
variable {l : Launch} {D : va_G} {cy : Nat → ClassId} {μ : mth} {d rc rs : Nat} {P : Option Value → hp → Prop} {X : String → hp → Prop} {pc : Nat} {lv : List (Nat × Value)} {st : List Value} {h : hp} {g : gp} {δ : dp} {ρ : Type} {em : ρ → (Option Value ⊕ String) × dp} {o o2 : Option ρ}
theorem a_iadd {x y : Int32} (hdg : decode μ.2.1 pc = .ok (.iadd, 1))  (k : AW l D cy μ d rc rs P X (pc + 1) lv (.int (x + y) :: st) h) : AW l D cy μ d rc rs P X pc lv (.int y :: .int x :: st) h := by
  intro p e R s m args below meth c L A H locs cells slots mc ms ls F r1 r2 r3 r4 r5 r6 r7 r8 hl
  exact lv_iadd F.1 F.2.1 hdg (k p e R s m args below meth c L A H locs cells slots mc ms ls F r1 r2 r3 r4 r5 r6 r7 r8 hl)
theorem w_iadd {x y : Int32} (hdg : decode μ.2.1 pc = .ok (.iadd, 1))  (k : AWD l D cy μ d rc rs em g (pc + 1) lv (.int (x + y) :: st) δ o) : AWD l D cy μ d rc rs em g pc lv (.int y :: .int x :: st) δ o := fun r hr P X hP => a_iadd hdg  (k r hr P X hP)
theorem a_isub {x y : Int32} (hdg : decode μ.2.1 pc = .ok (.isub, 1))  (k : AW l D cy μ d rc rs P X (pc + 1) lv (.int (x - y) :: st) h) : AW l D cy μ d rc rs P X pc lv (.int y :: .int x :: st) h := by
  intro p e R s m args below meth c L A H locs cells slots mc ms ls F r1 r2 r3 r4 r5 r6 r7 r8 hl
  exact lv_isub F.1 F.2.1 hdg (k p e R s m args below meth c L A H locs cells slots mc ms ls F r1 r2 r3 r4 r5 r6 r7 r8 hl)
theorem w_isub {x y : Int32} (hdg : decode μ.2.1 pc = .ok (.isub, 1))  (k : AWD l D cy μ d rc rs em g (pc + 1) lv (.int (x - y) :: st) δ o) : AWD l D cy μ d rc rs em g pc lv (.int y :: .int x :: st) δ o := fun r hr P X hP => a_isub hdg  (k r hr P X hP)
theorem a_imul {x y : Int32} (hdg : decode μ.2.1 pc = .ok (.imul, 1))  (k : AW l D cy μ d rc rs P X (pc + 1) lv (.int (x * y) :: st) h) : AW l D cy μ d rc rs P X pc lv (.int y :: .int x :: st) h := by
  intro p e R s m args below meth c L A H locs cells slots mc ms ls F r1 r2 r3 r4 r5 r6 r7 r8 hl
  exact lv_imul F.1 F.2.1 hdg (k p e R s m args below meth c L A H locs cells slots mc ms ls F r1 r2 r3 r4 r5 r6 r7 r8 hl)
theorem w_imul {x y : Int32} (hdg : decode μ.2.1 pc = .ok (.imul, 1))  (k : AWD l D cy μ d rc rs em g (pc + 1) lv (.int (x * y) :: st) δ o) : AWD l D cy μ d rc rs em g pc lv (.int y :: .int x :: st) δ o := fun r hr P X hP => a_imul hdg  (k r hr P X hP)
theorem a_iand {x y : Int32} (hdg : decode μ.2.1 pc = .ok (.iand, 1))  (k : AW l D cy μ d rc rs P X (pc + 1) lv (.int (x &&& y) :: st) h) : AW l D cy μ d rc rs P X pc lv (.int y :: .int x :: st) h := by
  intro p e R s m args below meth c L A H locs cells slots mc ms ls F r1 r2 r3 r4 r5 r6 r7 r8 hl
  exact lv_iand F.1 F.2.1 hdg (k p e R s m args below meth c L A H locs cells slots mc ms ls F r1 r2 r3 r4 r5 r6 r7 r8 hl)
theorem w_iand {x y : Int32} (hdg : decode μ.2.1 pc = .ok (.iand, 1))  (k : AWD l D cy μ d rc rs em g (pc + 1) lv (.int (x &&& y) :: st) δ o) : AWD l D cy μ d rc rs em g pc lv (.int y :: .int x :: st) δ o := fun r hr P X hP => a_iand hdg  (k r hr P X hP)
theorem a_ior {x y : Int32} (hdg : decode μ.2.1 pc = .ok (.ior, 1))  (k : AW l D cy μ d rc rs P X (pc + 1) lv (.int (x ||| y) :: st) h) : AW l D cy μ d rc rs P X pc lv (.int y :: .int x :: st) h := by
  intro p e R s m args below meth c L A H locs cells slots mc ms ls F r1 r2 r3 r4 r5 r6 r7 r8 hl
  exact lv_ior F.1 F.2.1 hdg (k p e R s m args below meth c L A H locs cells slots mc ms ls F r1 r2 r3 r4 r5 r6 r7 r8 hl)
theorem w_ior {x y : Int32} (hdg : decode μ.2.1 pc = .ok (.ior, 1))  (k : AWD l D cy μ d rc rs em g (pc + 1) lv (.int (x ||| y) :: st) δ o) : AWD l D cy μ d rc rs em g pc lv (.int y :: .int x :: st) δ o := fun r hr P X hP => a_ior hdg  (k r hr P X hP)
theorem a_ixor {x y : Int32} (hdg : decode μ.2.1 pc = .ok (.ixor, 1))  (k : AW l D cy μ d rc rs P X (pc + 1) lv (.int (x ^^^ y) :: st) h) : AW l D cy μ d rc rs P X pc lv (.int y :: .int x :: st) h := by
  intro p e R s m args below meth c L A H locs cells slots mc ms ls F r1 r2 r3 r4 r5 r6 r7 r8 hl
  exact lv_ixor F.1 F.2.1 hdg (k p e R s m args below meth c L A H locs cells slots mc ms ls F r1 r2 r3 r4 r5 r6 r7 r8 hl)
theorem w_ixor {x y : Int32} (hdg : decode μ.2.1 pc = .ok (.ixor, 1))  (k : AWD l D cy μ d rc rs em g (pc + 1) lv (.int (x ^^^ y) :: st) δ o) : AWD l D cy μ d rc rs em g pc lv (.int y :: .int x :: st) δ o := fun r hr P X hP => a_ixor hdg  (k r hr P X hP)
theorem a_ishl {x y : Int32} (hdg : decode μ.2.1 pc = .ok (.ishl, 1))  (k : AW l D cy μ d rc rs P X (pc + 1) lv (.int (x <<< (y &&& 31)) :: st) h) : AW l D cy μ d rc rs P X pc lv (.int y :: .int x :: st) h := by
  intro p e R s m args below meth c L A H locs cells slots mc ms ls F r1 r2 r3 r4 r5 r6 r7 r8 hl
  exact lv_ishl F.1 F.2.1 hdg (k p e R s m args below meth c L A H locs cells slots mc ms ls F r1 r2 r3 r4 r5 r6 r7 r8 hl)
theorem w_ishl {x y : Int32} (hdg : decode μ.2.1 pc = .ok (.ishl, 1))  (k : AWD l D cy μ d rc rs em g (pc + 1) lv (.int (x <<< (y &&& 31)) :: st) δ o) : AWD l D cy μ d rc rs em g pc lv (.int y :: .int x :: st) δ o := fun r hr P X hP => a_ishl hdg  (k r hr P X hP)
theorem a_ishr {x y : Int32} (hdg : decode μ.2.1 pc = .ok (.ishr, 1))  (k : AW l D cy μ d rc rs P X (pc + 1) lv (.int (x >>> (y &&& 31)) :: st) h) : AW l D cy μ d rc rs P X pc lv (.int y :: .int x :: st) h := by
  intro p e R s m args below meth c L A H locs cells slots mc ms ls F r1 r2 r3 r4 r5 r6 r7 r8 hl
  exact lv_ishr F.1 F.2.1 hdg (k p e R s m args below meth c L A H locs cells slots mc ms ls F r1 r2 r3 r4 r5 r6 r7 r8 hl)
theorem w_ishr {x y : Int32} (hdg : decode μ.2.1 pc = .ok (.ishr, 1))  (k : AWD l D cy μ d rc rs em g (pc + 1) lv (.int (x >>> (y &&& 31)) :: st) δ o) : AWD l D cy μ d rc rs em g pc lv (.int y :: .int x :: st) δ o := fun r hr P X hP => a_ishr hdg  (k r hr P X hP)
theorem a_idiv {x y : Int32} (hdg : decode μ.2.1 pc = .ok (.idiv, 1)) (hne : ¬ y = 0) (k : AW l D cy μ d rc rs P X (pc + 1) lv (.int (x / y) :: st) h) : AW l D cy μ d rc rs P X pc lv (.int y :: .int x :: st) h := by
  intro p e R s m args below meth c L A H locs cells slots mc ms ls F r1 r2 r3 r4 r5 r6 r7 r8 hl
  exact lv_idiv F.1 F.2.1 hdg hne (k p e R s m args below meth c L A H locs cells slots mc ms ls F r1 r2 r3 r4 r5 r6 r7 r8 hl)
theorem w_idiv {x y : Int32} (hdg : decode μ.2.1 pc = .ok (.idiv, 1)) (hne : ¬ y = 0) (k : AWD l D cy μ d rc rs em g (pc + 1) lv (.int (x / y) :: st) δ o) : AWD l D cy μ d rc rs em g pc lv (.int y :: .int x :: st) δ o := fun r hr P X hP => a_idiv hdg hne (k r hr P X hP)
theorem a_irem {x y : Int32} (hdg : decode μ.2.1 pc = .ok (.irem, 1)) (hne : ¬ y = 0) (k : AW l D cy μ d rc rs P X (pc + 1) lv (.int (x - x / y * y) :: st) h) : AW l D cy μ d rc rs P X pc lv (.int y :: .int x :: st) h := by
  intro p e R s m args below meth c L A H locs cells slots mc ms ls F r1 r2 r3 r4 r5 r6 r7 r8 hl
  exact lv_irem F.1 F.2.1 hdg hne (k p e R s m args below meth c L A H locs cells slots mc ms ls F r1 r2 r3 r4 r5 r6 r7 r8 hl)
theorem w_irem {x y : Int32} (hdg : decode μ.2.1 pc = .ok (.irem, 1)) (hne : ¬ y = 0) (k : AWD l D cy μ d rc rs em g (pc + 1) lv (.int (x - x / y * y) :: st) δ o) : AWD l D cy μ d rc rs em g pc lv (.int y :: .int x :: st) δ o := fun r hr P X hP => a_irem hdg hne (k r hr P X hP)
theorem a_iushr {x y : Int32} (hdg : decode μ.2.1 pc = .ok (.iushr, 1))  (k : AW l D cy μ d rc rs P X (pc + 1) lv (.int (x.toUInt32 >>> (y.toUInt32 &&& Int32.toUInt32 31)).toInt32 :: st) h) : AW l D cy μ d rc rs P X pc lv (.int y :: .int x :: st) h := by
  intro p e R s m args below meth c L A H locs cells slots mc ms ls F r1 r2 r3 r4 r5 r6 r7 r8 hl
  exact lv_iushr F.1 F.2.1 hdg rfl (k p e R s m args below meth c L A H locs cells slots mc ms ls F r1 r2 r3 r4 r5 r6 r7 r8 hl)
theorem w_iushr {x y : Int32} (hdg : decode μ.2.1 pc = .ok (.iushr, 1))  (k : AWD l D cy μ d rc rs em g (pc + 1) lv (.int (x.toUInt32 >>> (y.toUInt32 &&& Int32.toUInt32 31)).toInt32 :: st) δ o) : AWD l D cy μ d rc rs em g pc lv (.int y :: .int x :: st) δ o := fun r hr P X hP => a_iushr hdg  (k r hr P X hP)
theorem a_ladd {x y : Int64} (hdg : decode μ.2.1 pc = .ok (.ladd, 1))  (k : AW l D cy μ d rc rs P X (pc + 1) lv (.long (x + y) :: st) h) : AW l D cy μ d rc rs P X pc lv (.long y :: .long x :: st) h := by
  intro p e R s m args below meth c L A H locs cells slots mc ms ls F r1 r2 r3 r4 r5 r6 r7 r8 hl
  exact lv_ladd F.1 F.2.1 hdg (k p e R s m args below meth c L A H locs cells slots mc ms ls F r1 r2 r3 r4 r5 r6 r7 r8 hl)
theorem w_ladd {x y : Int64} (hdg : decode μ.2.1 pc = .ok (.ladd, 1))  (k : AWD l D cy μ d rc rs em g (pc + 1) lv (.long (x + y) :: st) δ o) : AWD l D cy μ d rc rs em g pc lv (.long y :: .long x :: st) δ o := fun r hr P X hP => a_ladd hdg  (k r hr P X hP)
theorem a_lsub {x y : Int64} (hdg : decode μ.2.1 pc = .ok (.lsub, 1))  (k : AW l D cy μ d rc rs P X (pc + 1) lv (.long (x - y) :: st) h) : AW l D cy μ d rc rs P X pc lv (.long y :: .long x :: st) h := by
  intro p e R s m args below meth c L A H locs cells slots mc ms ls F r1 r2 r3 r4 r5 r6 r7 r8 hl
  exact lv_lsub F.1 F.2.1 hdg (k p e R s m args below meth c L A H locs cells slots mc ms ls F r1 r2 r3 r4 r5 r6 r7 r8 hl)
theorem w_lsub {x y : Int64} (hdg : decode μ.2.1 pc = .ok (.lsub, 1))  (k : AWD l D cy μ d rc rs em g (pc + 1) lv (.long (x - y) :: st) δ o) : AWD l D cy μ d rc rs em g pc lv (.long y :: .long x :: st) δ o := fun r hr P X hP => a_lsub hdg  (k r hr P X hP)
theorem a_land {x y : Int64} (hdg : decode μ.2.1 pc = .ok (.land, 1))  (k : AW l D cy μ d rc rs P X (pc + 1) lv (.long (x &&& y) :: st) h) : AW l D cy μ d rc rs P X pc lv (.long y :: .long x :: st) h := by
  intro p e R s m args below meth c L A H locs cells slots mc ms ls F r1 r2 r3 r4 r5 r6 r7 r8 hl
  exact lv_land F.1 F.2.1 hdg (k p e R s m args below meth c L A H locs cells slots mc ms ls F r1 r2 r3 r4 r5 r6 r7 r8 hl)
theorem w_land {x y : Int64} (hdg : decode μ.2.1 pc = .ok (.land, 1))  (k : AWD l D cy μ d rc rs em g (pc + 1) lv (.long (x &&& y) :: st) δ o) : AWD l D cy μ d rc rs em g pc lv (.long y :: .long x :: st) δ o := fun r hr P X hP => a_land hdg  (k r hr P X hP)
theorem a_lor {x y : Int64} (hdg : decode μ.2.1 pc = .ok (.lor, 1))  (k : AW l D cy μ d rc rs P X (pc + 1) lv (.long (x ||| y) :: st) h) : AW l D cy μ d rc rs P X pc lv (.long y :: .long x :: st) h := by
  intro p e R s m args below meth c L A H locs cells slots mc ms ls F r1 r2 r3 r4 r5 r6 r7 r8 hl
  exact lv_lor F.1 F.2.1 hdg (k p e R s m args below meth c L A H locs cells slots mc ms ls F r1 r2 r3 r4 r5 r6 r7 r8 hl)
theorem w_lor {x y : Int64} (hdg : decode μ.2.1 pc = .ok (.lor, 1))  (k : AWD l D cy μ d rc rs em g (pc + 1) lv (.long (x ||| y) :: st) δ o) : AWD l D cy μ d rc rs em g pc lv (.long y :: .long x :: st) δ o := fun r hr P X hP => a_lor hdg  (k r hr P X hP)
theorem a_lshl {x : Int64} {y : Int32} (hdg : decode μ.2.1 pc = .ok (.lshl, 1))  (k : AW l D cy μ d rc rs P X (pc + 1) lv (.long (x <<< (y.toInt64 &&& 63)) :: st) h) : AW l D cy μ d rc rs P X pc lv (.int y :: .long x :: st) h := by
  intro p e R s m args below meth c L A H locs cells slots mc ms ls F r1 r2 r3 r4 r5 r6 r7 r8 hl
  exact lv_lshl F.1 F.2.1 hdg rfl (k p e R s m args below meth c L A H locs cells slots mc ms ls F r1 r2 r3 r4 r5 r6 r7 r8 hl)
theorem w_lshl {x : Int64} {y : Int32} (hdg : decode μ.2.1 pc = .ok (.lshl, 1))  (k : AWD l D cy μ d rc rs em g (pc + 1) lv (.long (x <<< (y.toInt64 &&& 63)) :: st) δ o) : AWD l D cy μ d rc rs em g pc lv (.int y :: .long x :: st) δ o := fun r hr P X hP => a_lshl hdg  (k r hr P X hP)
theorem a_lushr {x : Int64} {y : Int32} (hdg : decode μ.2.1 pc = .ok (.lushr, 1))  (k : AW l D cy μ d rc rs P X (pc + 1) lv (.long (x.toUInt64 >>> (y.toInt64.toUInt64 &&& Int64.toUInt64 63)).toInt64 :: st) h) : AW l D cy μ d rc rs P X pc lv (.int y :: .long x :: st) h := by
  intro p e R s m args below meth c L A H locs cells slots mc ms ls F r1 r2 r3 r4 r5 r6 r7 r8 hl
  exact lv_lushr F.1 F.2.1 hdg rfl (k p e R s m args below meth c L A H locs cells slots mc ms ls F r1 r2 r3 r4 r5 r6 r7 r8 hl)
theorem w_lushr {x : Int64} {y : Int32} (hdg : decode μ.2.1 pc = .ok (.lushr, 1))  (k : AWD l D cy μ d rc rs em g (pc + 1) lv (.long (x.toUInt64 >>> (y.toInt64.toUInt64 &&& Int64.toUInt64 63)).toInt64 :: st) δ o) : AWD l D cy μ d rc rs em g pc lv (.int y :: .long x :: st) δ o := fun r hr P X hP => a_lushr hdg  (k r hr P X hP)
theorem a_i2l {x : Int32} (hdg : decode μ.2.1 pc = .ok (.i2l, 1))  (k : AW l D cy μ d rc rs P X (pc + 1) lv (.long x.toInt64 :: st) h) : AW l D cy μ d rc rs P X pc lv (.int x :: st) h := by
  intro p e R s m args below meth c L A H locs cells slots mc ms ls F r1 r2 r3 r4 r5 r6 r7 r8 hl
  exact lv_i2l F.1 F.2.1 hdg rfl (k p e R s m args below meth c L A H locs cells slots mc ms ls F r1 r2 r3 r4 r5 r6 r7 r8 hl)
theorem w_i2l {x : Int32} (hdg : decode μ.2.1 pc = .ok (.i2l, 1))  (k : AWD l D cy μ d rc rs em g (pc + 1) lv (.long x.toInt64 :: st) δ o) : AWD l D cy μ d rc rs em g pc lv (.int x :: st) δ o := fun r hr P X hP => a_i2l hdg  (k r hr P X hP)
theorem a_l2i {x : Int64} (hdg : decode μ.2.1 pc = .ok (.l2i, 1))  (k : AW l D cy μ d rc rs P X (pc + 1) lv (.int x.toInt32 :: st) h) : AW l D cy μ d rc rs P X pc lv (.long x :: st) h := by
  intro p e R s m args below meth c L A H locs cells slots mc ms ls F r1 r2 r3 r4 r5 r6 r7 r8 hl
  exact lv_l2i F.1 F.2.1 hdg rfl (k p e R s m args below meth c L A H locs cells slots mc ms ls F r1 r2 r3 r4 r5 r6 r7 r8 hl)
theorem w_l2i {x : Int64} (hdg : decode μ.2.1 pc = .ok (.l2i, 1))  (k : AWD l D cy μ d rc rs em g (pc + 1) lv (.int x.toInt32 :: st) δ o) : AWD l D cy μ d rc rs em g pc lv (.long x :: st) δ o := fun r hr P X hP => a_l2i hdg  (k r hr P X hP)
theorem a_i2c {x : Int32} (hdg : decode μ.2.1 pc = .ok (.i2c, 1))  (k : AW l D cy μ d rc rs P X (pc + 1) lv (.int (x.toUInt32 % 65536).toInt32 :: st) h) : AW l D cy μ d rc rs P X pc lv (.int x :: st) h := by
  intro p e R s m args below meth c L A H locs cells slots mc ms ls F r1 r2 r3 r4 r5 r6 r7 r8 hl
  exact lv_i2c F.1 F.2.1 hdg rfl (k p e R s m args below meth c L A H locs cells slots mc ms ls F r1 r2 r3 r4 r5 r6 r7 r8 hl)
theorem w_i2c {x : Int32} (hdg : decode μ.2.1 pc = .ok (.i2c, 1))  (k : AWD l D cy μ d rc rs em g (pc + 1) lv (.int (x.toUInt32 % 65536).toInt32 :: st) δ o) : AWD l D cy μ d rc rs em g pc lv (.int x :: st) δ o := fun r hr P X hP => a_i2c hdg  (k r hr P X hP)
theorem a_iconst {n : Int} {v : Int32} (hdg : decode μ.2.1 pc = .ok (.iconst n, 1)) (hv : Int32.ofInt n = v) (k : AW l D cy μ d rc rs P X (pc + 1) lv (.int v :: st) h) : AW l D cy μ d rc rs P X pc lv st h := by
  intro p e R s m args below meth c L A H locs cells slots mc ms ls F r1 r2 r3 r4 r5 r6 r7 r8 hl
  exact lv_iconst F.1 F.2.1 hdg hv (k p e R s m args below meth c L A H locs cells slots mc ms ls F r1 r2 r3 r4 r5 r6 r7 r8 hl)
theorem w_iconst {n : Int} {v : Int32} (hdg : decode μ.2.1 pc = .ok (.iconst n, 1)) (hv : Int32.ofInt n = v) (k : AWD l D cy μ d rc rs em g (pc + 1) lv (.int v :: st) δ o) : AWD l D cy μ d rc rs em g pc lv st δ o := fun r hr P X hP => a_iconst hdg hv (k r hr P X hP)
theorem a_bipush {n : Int} {v : Int32} (hdg : decode μ.2.1 pc = .ok (.bipush n, 2)) (hv : (Int8.ofInt n).toInt32 = v) (k : AW l D cy μ d rc rs P X (pc + 2) lv (.int v :: st) h) : AW l D cy μ d rc rs P X pc lv st h := by
  intro p e R s m args below meth c L A H locs cells slots mc ms ls F r1 r2 r3 r4 r5 r6 r7 r8 hl
  exact lv_bipush F.1 F.2.1 hdg hv (k p e R s m args below meth c L A H locs cells slots mc ms ls F r1 r2 r3 r4 r5 r6 r7 r8 hl)
theorem w_bipush {n : Int} {v : Int32} (hdg : decode μ.2.1 pc = .ok (.bipush n, 2)) (hv : (Int8.ofInt n).toInt32 = v) (k : AWD l D cy μ d rc rs em g (pc + 2) lv (.int v :: st) δ o) : AWD l D cy μ d rc rs em g pc lv st δ o := fun r hr P X hP => a_bipush hdg hv (k r hr P X hP)
theorem a_sipush {n : Int} {v : Int32} (hdg : decode μ.2.1 pc = .ok (.sipush n, 3)) (hv : (Int16.ofInt n).toInt32 = v) (k : AW l D cy μ d rc rs P X (pc + 3) lv (.int v :: st) h) : AW l D cy μ d rc rs P X pc lv st h := by
  intro p e R s m args below meth c L A H locs cells slots mc ms ls F r1 r2 r3 r4 r5 r6 r7 r8 hl
  exact lv_sipush F.1 F.2.1 hdg hv (k p e R s m args below meth c L A H locs cells slots mc ms ls F r1 r2 r3 r4 r5 r6 r7 r8 hl)
theorem w_sipush {n : Int} {v : Int32} (hdg : decode μ.2.1 pc = .ok (.sipush n, 3)) (hv : (Int16.ofInt n).toInt32 = v) (k : AWD l D cy μ d rc rs em g (pc + 3) lv (.int v :: st) δ o) : AWD l D cy μ d rc rs em g pc lv st δ o := fun r hr P X hP => a_sipush hdg hv (k r hr P X hP)
theorem a_lconst {n : Fin 2} {v : Int64} (hdg : decode μ.2.1 pc = .ok (.lconst n, 1)) (hv : Int64.ofNat (n : Nat) = v) (k : AW l D cy μ d rc rs P X (pc + 1) lv (.long v :: st) h) : AW l D cy μ d rc rs P X pc lv st h := by
  intro p e R s m args below meth c L A H locs cells slots mc ms ls F r1 r2 r3 r4 r5 r6 r7 r8 hl
  exact lv_lconst F.1 F.2.1 hdg hv (k p e R s m args below meth c L A H locs cells slots mc ms ls F r1 r2 r3 r4 r5 r6 r7 r8 hl)
theorem w_lconst {n : Fin 2} {v : Int64} (hdg : decode μ.2.1 pc = .ok (.lconst n, 1)) (hv : Int64.ofNat (n : Nat) = v) (k : AWD l D cy μ d rc rs em g (pc + 1) lv (.long v :: st) δ o) : AWD l D cy μ d rc rs em g pc lv st δ o := fun r hr P X hP => a_lconst hdg hv (k r hr P X hP)
theorem a_dup {v : Value} (hdg : decode μ.2.1 pc = .ok (.dup, 1)) (hc : v.category = 1) (k : AW l D cy μ d rc rs P X (pc + 1) lv (v :: v :: st) h) : AW l D cy μ d rc rs P X pc lv (v :: st) h := by
  intro p e R s m args below meth c L A H locs cells slots mc ms ls F r1 r2 r3 r4 r5 r6 r7 r8 hl
  exact lv_dup F.1 F.2.1 hdg hc (k p e R s m args below meth c L A H locs cells slots mc ms ls F r1 r2 r3 r4 r5 r6 r7 r8 hl)
theorem w_dup {v : Value} (hdg : decode μ.2.1 pc = .ok (.dup, 1)) (hc : v.category = 1) (k : AWD l D cy μ d rc rs em g (pc + 1) lv (v :: v :: st) δ o) : AWD l D cy μ d rc rs em g pc lv (v :: st) δ o := fun r hr P X hP => a_dup hdg hc (k r hr P X hP)
theorem a_pop {v : Value} (hdg : decode μ.2.1 pc = .ok (.pop, 1)) (hc : v.category = 1) (k : AW l D cy μ d rc rs P X (pc + 1) lv st h) : AW l D cy μ d rc rs P X pc lv (v :: st) h := by
  intro p e R s m args below meth c L A H locs cells slots mc ms ls F r1 r2 r3 r4 r5 r6 r7 r8 hl
  exact lv_pop F.1 F.2.1 hdg hc (k p e R s m args below meth c L A H locs cells slots mc ms ls F r1 r2 r3 r4 r5 r6 r7 r8 hl)
theorem w_pop {v : Value} (hdg : decode μ.2.1 pc = .ok (.pop, 1)) (hc : v.category = 1) (k : AWD l D cy μ d rc rs em g (pc + 1) lv st δ o) : AWD l D cy μ d rc rs em g pc lv (v :: st) δ o := fun r hr P X hP => a_pop hdg hc (k r hr P X hP)
theorem a_iload_n {x : Int32} {q : Fin 4} (k0 i : Nat) (hdg : decode μ.2.1 pc = .ok (.iload_n q, 1)) (hi : (q : Nat) = i) (hk : lv[k0]? = some (i, .int x)) (k : AW l D cy μ d rc rs P X (pc + 1) lv (.int x :: st) h) : AW l D cy μ d rc rs P X pc lv st h := by
  intro p e R s m args below meth c L A H locs cells slots mc ms ls F r1 r2 r3 r4 r5 r6 r7 r8 hl
  exact lv_iload_n F.1 F.2.1 hdg hi (lv_at hl k0 hk) (k p e R s m args below meth c L A H locs cells slots mc ms ls F r1 r2 r3 r4 r5 r6 r7 r8 hl)
theorem w_iload_n {x : Int32} {q : Fin 4} (k0 i : Nat) (hdg : decode μ.2.1 pc = .ok (.iload_n q, 1)) (hi : (q : Nat) = i) (hk : lv[k0]? = some (i, .int x)) (k : AWD l D cy μ d rc rs em g (pc + 1) lv (.int x :: st) δ o) : AWD l D cy μ d rc rs em g pc lv st δ o := fun r hr P X hP => a_iload_n k0 i hdg hi hk (k r hr P X hP)
theorem a_iload {x : Int32} {i : Nat} (k0 : Nat) (hdg : decode μ.2.1 pc = .ok (.iload i, 2)) (hk : lv[k0]? = some (i, .int x)) (k : AW l D cy μ d rc rs P X (pc + 2) lv (.int x :: st) h) : AW l D cy μ d rc rs P X pc lv st h := by
  intro p e R s m args below meth c L A H locs cells slots mc ms ls F r1 r2 r3 r4 r5 r6 r7 r8 hl
  exact lv_iload F.1 F.2.1 hdg (lv_at hl k0 hk) (k p e R s m args below meth c L A H locs cells slots mc ms ls F r1 r2 r3 r4 r5 r6 r7 r8 hl)
theorem w_iload {x : Int32} {i : Nat} (k0 : Nat) (hdg : decode μ.2.1 pc = .ok (.iload i, 2)) (hk : lv[k0]? = some (i, .int x)) (k : AWD l D cy μ d rc rs em g (pc + 2) lv (.int x :: st) δ o) : AWD l D cy μ d rc rs em g pc lv st δ o := fun r hr P X hP => a_iload k0 hdg hk (k r hr P X hP)
theorem a_aload_n {x : Nat} {q : Fin 4} (k0 i : Nat) (hdg : decode μ.2.1 pc = .ok (.aload_n q, 1)) (hi : (q : Nat) = i) (hk : lv[k0]? = some (i, .ref x)) (k : AW l D cy μ d rc rs P X (pc + 1) lv (.ref x :: st) h) : AW l D cy μ d rc rs P X pc lv st h := by
  intro p e R s m args below meth c L A H locs cells slots mc ms ls F r1 r2 r3 r4 r5 r6 r7 r8 hl
  exact lv_aload_n F.1 F.2.1 hdg hi (lv_at hl k0 hk) (k p e R s m args below meth c L A H locs cells slots mc ms ls F r1 r2 r3 r4 r5 r6 r7 r8 hl)
theorem w_aload_n {x : Nat} {q : Fin 4} (k0 i : Nat) (hdg : decode μ.2.1 pc = .ok (.aload_n q, 1)) (hi : (q : Nat) = i) (hk : lv[k0]? = some (i, .ref x)) (k : AWD l D cy μ d rc rs em g (pc + 1) lv (.ref x :: st) δ o) : AWD l D cy μ d rc rs em g pc lv st δ o := fun r hr P X hP => a_aload_n k0 i hdg hi hk (k r hr P X hP)
theorem a_aload {x : Nat} {i : Nat} (k0 : Nat) (hdg : decode μ.2.1 pc = .ok (.aload i, 2)) (hk : lv[k0]? = some (i, .ref x)) (k : AW l D cy μ d rc rs P X (pc + 2) lv (.ref x :: st) h) : AW l D cy μ d rc rs P X pc lv st h := by
  intro p e R s m args below meth c L A H locs cells slots mc ms ls F r1 r2 r3 r4 r5 r6 r7 r8 hl
  exact lv_aload F.1 F.2.1 hdg (lv_at hl k0 hk) (k p e R s m args below meth c L A H locs cells slots mc ms ls F r1 r2 r3 r4 r5 r6 r7 r8 hl)
theorem w_aload {x : Nat} {i : Nat} (k0 : Nat) (hdg : decode μ.2.1 pc = .ok (.aload i, 2)) (hk : lv[k0]? = some (i, .ref x)) (k : AWD l D cy μ d rc rs em g (pc + 2) lv (.ref x :: st) δ o) : AWD l D cy μ d rc rs em g pc lv st δ o := fun r hr P X hP => a_aload k0 hdg hk (k r hr P X hP)
theorem a_lload_n {x : Int64} {q : Fin 4} (k0 i : Nat) (hdg : decode μ.2.1 pc = .ok (.lload_n q, 1)) (hi : (q : Nat) = i) (hk : lv[k0]? = some (i, .long x)) (k : AW l D cy μ d rc rs P X (pc + 1) lv (.long x :: st) h) : AW l D cy μ d rc rs P X pc lv st h := by
  intro p e R s m args below meth c L A H locs cells slots mc ms ls F r1 r2 r3 r4 r5 r6 r7 r8 hl
  exact lv_lload_n F.1 F.2.1 hdg hi (lv_at hl k0 hk) (k p e R s m args below meth c L A H locs cells slots mc ms ls F r1 r2 r3 r4 r5 r6 r7 r8 hl)
theorem w_lload_n {x : Int64} {q : Fin 4} (k0 i : Nat) (hdg : decode μ.2.1 pc = .ok (.lload_n q, 1)) (hi : (q : Nat) = i) (hk : lv[k0]? = some (i, .long x)) (k : AWD l D cy μ d rc rs em g (pc + 1) lv (.long x :: st) δ o) : AWD l D cy μ d rc rs em g pc lv st δ o := fun r hr P X hP => a_lload_n k0 i hdg hi hk (k r hr P X hP)
theorem a_lload {x : Int64} {i : Nat} (k0 : Nat) (hdg : decode μ.2.1 pc = .ok (.lload i, 2)) (hk : lv[k0]? = some (i, .long x)) (k : AW l D cy μ d rc rs P X (pc + 2) lv (.long x :: st) h) : AW l D cy μ d rc rs P X pc lv st h := by
  intro p e R s m args below meth c L A H locs cells slots mc ms ls F r1 r2 r3 r4 r5 r6 r7 r8 hl
  exact lv_lload F.1 F.2.1 hdg (lv_at hl k0 hk) (k p e R s m args below meth c L A H locs cells slots mc ms ls F r1 r2 r3 r4 r5 r6 r7 r8 hl)
theorem w_lload {x : Int64} {i : Nat} (k0 : Nat) (hdg : decode μ.2.1 pc = .ok (.lload i, 2)) (hk : lv[k0]? = some (i, .long x)) (k : AWD l D cy μ d rc rs em g (pc + 2) lv (.long x :: st) δ o) : AWD l D cy μ d rc rs em g pc lv st δ o := fun r hr P X hP => a_lload k0 hdg hk (k r hr P X hP)
theorem a_lcmp {x y : Int64} (hdg : decode μ.2.1 pc = .ok (.lcmp, 1))  (k : AW l D cy μ d rc rs P X (pc + 1) lv (.int (lg_cmp x y) :: st) h) : AW l D cy μ d rc rs P X pc lv (.long y :: .long x :: st) h := by
  intro p e R s m args below meth c L A H locs cells slots mc ms ls F r1 r2 r3 r4 r5 r6 r7 r8 hl
  exact W.lcmp F.1 F.2.1 hdg (k p e R s m args below meth c L A H locs cells slots mc ms ls F r1 r2 r3 r4 r5 r6 r7 r8 hl)
theorem w_lcmp {x y : Int64} (hdg : decode μ.2.1 pc = .ok (.lcmp, 1))  (k : AWD l D cy μ d rc rs em g (pc + 1) lv (.int (lg_cmp x y) :: st) δ o) : AWD l D cy μ d rc rs em g pc lv (.long y :: .long x :: st) δ o := fun r hr P X hP => a_lcmp hdg  (k r hr P X hP)
theorem a_dup2 {va vb : Value} (hdg : decode μ.2.1 pc = .ok (.dup2, 1)) (hva : va.category = 1) (hvb : vb.category = 1) (k : AW l D cy μ d rc rs P X (pc + 1) lv (va :: vb :: va :: vb :: st) h) : AW l D cy μ d rc rs P X pc lv (va :: vb :: st) h := by
  intro p e R s m args below meth c L A H locs cells slots mc ms ls F r1 r2 r3 r4 r5 r6 r7 r8 hl
  exact lv_dup2_11 F.1 F.2.1 hdg hva hvb (k p e R s m args below meth c L A H locs cells slots mc ms ls F r1 r2 r3 r4 r5 r6 r7 r8 hl)
theorem w_dup2 {va vb : Value} (hdg : decode μ.2.1 pc = .ok (.dup2, 1)) (hva : va.category = 1) (hvb : vb.category = 1) (k : AWD l D cy μ d rc rs em g (pc + 1) lv (va :: vb :: va :: vb :: st) δ o) : AWD l D cy μ d rc rs em g pc lv (va :: vb :: st) δ o := fun r hr P X hP => a_dup2 hdg hva hvb (k r hr P X hP)
theorem a_ldc {index : Nat} {v : Int32} (hdg : decode μ.2.1 pc = .ok (.ldc index, 2)) (hw : Cond.constant μ.1.cls index v ∈ TT) (k : AW l D cy μ d rc rs P X (pc + 2) lv (.int v :: st) h) : AW l D cy μ d rc rs P X pc lv st h := by
  intro p e R s m args below meth c L A H locs cells slots mc ms ls F r1 r2 r3 r4 r5 r6 r7 r8 hl
  exact lv_ldc F.1 F.2.1 F.2.2.2.2.1 (F.2.2.2.2.2.1 _ hw) hdg (k p e R s m args below meth c L A H locs cells slots mc ms ls F r1 r2 r3 r4 r5 r6 r7 r8 hl)
theorem w_ldc {index : Nat} {v : Int32} (hdg : decode μ.2.1 pc = .ok (.ldc index, 2)) (hw : Cond.constant μ.1.cls index v ∈ TT) (k : AWD l D cy μ d rc rs em g (pc + 2) lv (.int v :: st) δ o) : AWD l D cy μ d rc rs em g pc lv st δ o := fun r hr P X hP => a_ldc hdg hw (k r hr P X hP)
theorem a_ldc_w {index : Nat} {v : Int32} (hdg : decode μ.2.1 pc = .ok (.ldc_w index, 3)) (hw : Cond.constant μ.1.cls index v ∈ TT) (k : AW l D cy μ d rc rs P X (pc + 3) lv (.int v :: st) h) : AW l D cy μ d rc rs P X pc lv st h := by
  intro p e R s m args below meth c L A H locs cells slots mc ms ls F r1 r2 r3 r4 r5 r6 r7 r8 hl
  exact lv_ldcw F.1 F.2.1 F.2.2.2.2.1 (F.2.2.2.2.2.1 _ hw) hdg (k p e R s m args below meth c L A H locs cells slots mc ms ls F r1 r2 r3 r4 r5 r6 r7 r8 hl)
theorem w_ldc_w {index : Nat} {v : Int32} (hdg : decode μ.2.1 pc = .ok (.ldc_w index, 3)) (hw : Cond.constant μ.1.cls index v ∈ TT) (k : AWD l D cy μ d rc rs em g (pc + 3) lv (.int v :: st) δ o) : AWD l D cy μ d rc rs em g pc lv st δ o := fun r hr P X hP => a_ldc_w hdg hw (k r hr P X hP)
theorem a_ldc2 {index : Nat} {v : Int64} (hdg : decode μ.2.1 pc = .ok (.ldc2_w index, 3)) (hw : Cond.constantLong μ.1.cls index v ∈ TT) (k : AW l D cy μ d rc rs P X (pc + 3) lv (.long v :: st) h) : AW l D cy μ d rc rs P X pc lv st h := by
  intro p e R s m args below meth c L A H locs cells slots mc ms ls F r1 r2 r3 r4 r5 r6 r7 r8 hl
  exact lv_ldc2 F.1 F.2.1 F.2.2.2.2.1 (F.2.2.2.2.2.1 _ hw) hdg (k p e R s m args below meth c L A H locs cells slots mc ms ls F r1 r2 r3 r4 r5 r6 r7 r8 hl)
theorem w_ldc2 {index : Nat} {v : Int64} (hdg : decode μ.2.1 pc = .ok (.ldc2_w index, 3)) (hw : Cond.constantLong μ.1.cls index v ∈ TT) (k : AWD l D cy μ d rc rs em g (pc + 3) lv (.long v :: st) δ o) : AWD l D cy μ d rc rs em g pc lv st δ o := fun r hr P X hP => a_ldc2 hdg hw (k r hr P X hP)
theorem a_istore_n {x : Int32} {q : Fin 4} {i : Nat} (lv' : List (Nat × Value)) (hdg : decode μ.2.1 pc = .ok (.istore_n q, 1)) (hi : (q : Nat) = i) (hn : i < μ.2.2.1) (hl' : (i, Value.int x) :: lv.filter (fun q => !(q.1 == i) && !(q.1 + 1 == i && q.2.category == 2)) = lv') (k : AW l D cy μ d rc rs P X (pc + 1) lv' st h) : AW l D cy μ d rc rs P X pc lv (.int x :: st) h := by
  intro p e R s m args below meth c L A H locs cells slots mc ms ls F r1 r2 r3 r4 r5 r6 r7 r8 hl
  exact lv_istore_n F.1 F.2.1 hdg hi hl hn hl' (fun ls' hl' => k p e R s m args below meth c L A H locs cells slots mc ms ls' F r1 r2 r3 r4 r5 r6 r7 r8 hl')
theorem w_istore_n {x : Int32} {q : Fin 4} {i : Nat} (lv' : List (Nat × Value)) (hdg : decode μ.2.1 pc = .ok (.istore_n q, 1)) (hi : (q : Nat) = i) (hn : i < μ.2.2.1) (hl' : (i, Value.int x) :: lv.filter (fun q => !(q.1 == i) && !(q.1 + 1 == i && q.2.category == 2)) = lv') (k : AWD l D cy μ d rc rs em g (pc + 1) lv' st δ o) : AWD l D cy μ d rc rs em g pc lv (.int x :: st) δ o := fun r hr P X hP => a_istore_n lv' hdg hi hn hl' (k r hr P X hP)
theorem a_istore {x : Int32} {i : Nat} (lv' : List (Nat × Value)) (hdg : decode μ.2.1 pc = .ok (.istore i, 2)) (hn : i < μ.2.2.1) (hl' : (i, Value.int x) :: lv.filter (fun q => !(q.1 == i) && !(q.1 + 1 == i && q.2.category == 2)) = lv') (k : AW l D cy μ d rc rs P X (pc + 2) lv' st h) : AW l D cy μ d rc rs P X pc lv (.int x :: st) h := by
  intro p e R s m args below meth c L A H locs cells slots mc ms ls F r1 r2 r3 r4 r5 r6 r7 r8 hl
  exact lv_istore F.1 F.2.1 hdg hl hn hl' (fun ls' hl' => k p e R s m args below meth c L A H locs cells slots mc ms ls' F r1 r2 r3 r4 r5 r6 r7 r8 hl')
theorem w_istore {x : Int32} {i : Nat} (lv' : List (Nat × Value)) (hdg : decode μ.2.1 pc = .ok (.istore i, 2)) (hn : i < μ.2.2.1) (hl' : (i, Value.int x) :: lv.filter (fun q => !(q.1 == i) && !(q.1 + 1 == i && q.2.category == 2)) = lv') (k : AWD l D cy μ d rc rs em g (pc + 2) lv' st δ o) : AWD l D cy μ d rc rs em g pc lv (.int x :: st) δ o := fun r hr P X hP => a_istore lv' hdg hn hl' (k r hr P X hP)
theorem a_astore_n {x : Nat} {q : Fin 4} {i : Nat} (lv' : List (Nat × Value)) (hdg : decode μ.2.1 pc = .ok (.astore_n q, 1)) (hi : (q : Nat) = i) (hn : i < μ.2.2.1) (hl' : (i, Value.ref x) :: lv.filter (fun q => !(q.1 == i) && !(q.1 + 1 == i && q.2.category == 2)) = lv') (k : AW l D cy μ d rc rs P X (pc + 1) lv' st h) : AW l D cy μ d rc rs P X pc lv (.ref x :: st) h := by
  intro p e R s m args below meth c L A H locs cells slots mc ms ls F r1 r2 r3 r4 r5 r6 r7 r8 hl
  exact lv_astore_n F.1 F.2.1 hdg hi hl hn hl' (fun ls' hl' => k p e R s m args below meth c L A H locs cells slots mc ms ls' F r1 r2 r3 r4 r5 r6 r7 r8 hl')
theorem w_astore_n {x : Nat} {q : Fin 4} {i : Nat} (lv' : List (Nat × Value)) (hdg : decode μ.2.1 pc = .ok (.astore_n q, 1)) (hi : (q : Nat) = i) (hn : i < μ.2.2.1) (hl' : (i, Value.ref x) :: lv.filter (fun q => !(q.1 == i) && !(q.1 + 1 == i && q.2.category == 2)) = lv') (k : AWD l D cy μ d rc rs em g (pc + 1) lv' st δ o) : AWD l D cy μ d rc rs em g pc lv (.ref x :: st) δ o := fun r hr P X hP => a_astore_n lv' hdg hi hn hl' (k r hr P X hP)
theorem a_astore {x : Nat} {i : Nat} (lv' : List (Nat × Value)) (hdg : decode μ.2.1 pc = .ok (.astore i, 2)) (hn : i < μ.2.2.1) (hl' : (i, Value.ref x) :: lv.filter (fun q => !(q.1 == i) && !(q.1 + 1 == i && q.2.category == 2)) = lv') (k : AW l D cy μ d rc rs P X (pc + 2) lv' st h) : AW l D cy μ d rc rs P X pc lv (.ref x :: st) h := by
  intro p e R s m args below meth c L A H locs cells slots mc ms ls F r1 r2 r3 r4 r5 r6 r7 r8 hl
  exact lv_astore F.1 F.2.1 hdg hl hn hl' (fun ls' hl' => k p e R s m args below meth c L A H locs cells slots mc ms ls' F r1 r2 r3 r4 r5 r6 r7 r8 hl')
theorem w_astore {x : Nat} {i : Nat} (lv' : List (Nat × Value)) (hdg : decode μ.2.1 pc = .ok (.astore i, 2)) (hn : i < μ.2.2.1) (hl' : (i, Value.ref x) :: lv.filter (fun q => !(q.1 == i) && !(q.1 + 1 == i && q.2.category == 2)) = lv') (k : AWD l D cy μ d rc rs em g (pc + 2) lv' st δ o) : AWD l D cy μ d rc rs em g pc lv (.ref x :: st) δ o := fun r hr P X hP => a_astore lv' hdg hn hl' (k r hr P X hP)
theorem a_lstore_n {x : Int64} {q : Fin 4} {i : Nat} (lv' : List (Nat × Value)) (hdg : decode μ.2.1 pc = .ok (.lstore_n q, 1)) (hi : (q : Nat) = i) (hn : i + 1 < μ.2.2.1) (hl' : (i, Value.long x) :: lv.filter (fun q => !(q.1 == i) && (!(q.1 == i + 1) && !(q.1 + 1 == i && q.2.category == 2))) = lv') (k : AW l D cy μ d rc rs P X (pc + 1) lv' st h) : AW l D cy μ d rc rs P X pc lv (.long x :: st) h := by
  intro p e R s m args below meth c L A H locs cells slots mc ms ls F r1 r2 r3 r4 r5 r6 r7 r8 hl
  exact lv_lstore_n F.1 F.2.1 hdg hi hl hn hl' (fun ls' hl' => k p e R s m args below meth c L A H locs cells slots mc ms ls' F r1 r2 r3 r4 r5 r6 r7 r8 hl')
theorem w_lstore_n {x : Int64} {q : Fin 4} {i : Nat} (lv' : List (Nat × Value)) (hdg : decode μ.2.1 pc = .ok (.lstore_n q, 1)) (hi : (q : Nat) = i) (hn : i + 1 < μ.2.2.1) (hl' : (i, Value.long x) :: lv.filter (fun q => !(q.1 == i) && (!(q.1 == i + 1) && !(q.1 + 1 == i && q.2.category == 2))) = lv') (k : AWD l D cy μ d rc rs em g (pc + 1) lv' st δ o) : AWD l D cy μ d rc rs em g pc lv (.long x :: st) δ o := fun r hr P X hP => a_lstore_n lv' hdg hi hn hl' (k r hr P X hP)
theorem a_lstore {x : Int64} {i : Nat} (lv' : List (Nat × Value)) (hdg : decode μ.2.1 pc = .ok (.lstore i, 2)) (hn : i + 1 < μ.2.2.1) (hl' : (i, Value.long x) :: lv.filter (fun q => !(q.1 == i) && (!(q.1 == i + 1) && !(q.1 + 1 == i && q.2.category == 2))) = lv') (k : AW l D cy μ d rc rs P X (pc + 2) lv' st h) : AW l D cy μ d rc rs P X pc lv (.long x :: st) h := by
  intro p e R s m args below meth c L A H locs cells slots mc ms ls F r1 r2 r3 r4 r5 r6 r7 r8 hl
  exact lv_lstore F.1 F.2.1 hdg hl hn hl' (fun ls' hl' => k p e R s m args below meth c L A H locs cells slots mc ms ls' F r1 r2 r3 r4 r5 r6 r7 r8 hl')
theorem w_lstore {x : Int64} {i : Nat} (lv' : List (Nat × Value)) (hdg : decode μ.2.1 pc = .ok (.lstore i, 2)) (hn : i + 1 < μ.2.2.1) (hl' : (i, Value.long x) :: lv.filter (fun q => !(q.1 == i) && (!(q.1 == i + 1) && !(q.1 + 1 == i && q.2.category == 2))) = lv') (k : AWD l D cy μ d rc rs em g (pc + 2) lv' st δ o) : AWD l D cy μ d rc rs em g pc lv (.long x :: st) δ o := fun r hr P X hP => a_lstore lv' hdg hn hl' (k r hr P X hP)
theorem a_iinc {x v : Int32} {i : Nat} {n : Int} (k0 : Nat) (lv' : List (Nat × Value)) (hdg : decode μ.2.1 pc = .ok (.iinc i n, 3)) (hk : lv[k0]? = some (i, .int x)) (hv : x + Int32.ofInt n = v) (hn : i < μ.2.2.1) (hl' : (i, Value.int v) :: lv.filter (fun q => !(q.1 == i) && !(q.1 + 1 == i && q.2.category == 2)) = lv') (k : AW l D cy μ d rc rs P X (pc + 3) lv' st h) : AW l D cy μ d rc rs P X pc lv st h := by
  intro p e R s m args below meth c L A H locs cells slots mc ms ls F r1 r2 r3 r4 r5 r6 r7 r8 hl
  exact lv_iinc F.1 F.2.1 hdg hl hk hv hn hl' (fun ls' hl' => k p e R s m args below meth c L A H locs cells slots mc ms ls' F r1 r2 r3 r4 r5 r6 r7 r8 hl')
theorem w_iinc {x v : Int32} {i : Nat} {n : Int} (k0 : Nat) (lv' : List (Nat × Value)) (hdg : decode μ.2.1 pc = .ok (.iinc i n, 3)) (hk : lv[k0]? = some (i, .int x)) (hv : x + Int32.ofInt n = v) (hn : i < μ.2.2.1) (hl' : (i, Value.int v) :: lv.filter (fun q => !(q.1 == i) && !(q.1 + 1 == i && q.2.category == 2)) = lv') (k : AWD l D cy μ d rc rs em g (pc + 3) lv' st δ o) : AWD l D cy μ d rc rs em g pc lv st δ o := fun r hr P X hP => a_iinc k0 lv' hdg hk hv hn hl' (k r hr P X hP)
theorem a_lv {lv' : List (Nat × Value)} (ks : List Nat) (hp' : lv_pick lv ks = lv') (k : AW l D cy μ d rc rs P X pc lv' st h) : AW l D cy μ d rc rs P X pc lv st h := by
  intro p e R s m args below meth c L A H locs cells slots mc ms ls F r1 r2 r3 r4 r5 r6 r7 r8 hl
  exact k p e R s m args below meth c L A H locs cells slots mc ms ls F r1 r2 r3 r4 r5 r6 r7 r8 (lv_sub hl ks hp')
theorem w_lv {lv' : List (Nat × Value)} (ks : List Nat) (hp' : lv_pick lv ks = lv') (k : AWD l D cy μ d rc rs em g pc lv' st δ o) : AWD l D cy μ d rc rs em g pc lv st δ o := fun r hr P X hP => a_lv ks hp' (k r hr P X hP)
theorem a_goto {off : Int} (tgt : Nat) (hdg : decode μ.2.1 pc = .ok (.goto off, 3)) (ht : (pc : Int) + off = (tgt : Int)) (k : AW l D cy μ d rc rs P X tgt lv st h) : AW l D cy μ d rc rs P X pc lv st h := by
  intro p e R s m args below meth c L A H locs cells slots mc ms ls F r1 r2 r3 r4 r5 r6 r7 r8 hl
  exact lv_goto F.1 F.2.1 hdg ht (k p e R s m args below meth c L A H locs cells slots mc ms ls F r1 r2 r3 r4 r5 r6 r7 r8 hl)
theorem w_goto {off : Int} (tgt : Nat) (hdg : decode μ.2.1 pc = .ok (.goto off, 3)) (ht : (pc : Int) + off = (tgt : Int)) (k : AWD l D cy μ d rc rs em g tgt lv st δ o) : AWD l D cy μ d rc rs em g pc lv st δ o := fun r hr P X hP => a_goto tgt hdg ht (k r hr P X hP)
theorem a_icmp_eq {x y : Int32} {off : Int} (tgt : Nat) (hdg : decode μ.2.1 pc = .ok (.if_icmp .eq off, 3)) (ht : (pc : Int) + off = (tgt : Int)) (kt : x = y → AW l D cy μ d rc rs P X tgt lv st h) (kf : ¬ x = y → AW l D cy μ d rc rs P X (pc + 3) lv st h) : AW l D cy μ d rc rs P X pc lv (.int y :: .int x :: st) h := by
  intro p e R s m args below meth c L A H locs cells slots mc ms ls F r1 r2 r3 r4 r5 r6 r7 r8 hl
  exact lv_icmp_eq F.1 F.2.1 hdg ht (fun z => kt z p e R s m args below meth c L A H locs cells slots mc ms ls F r1 r2 r3 r4 r5 r6 r7 r8 hl) (fun z => kf z p e R s m args below meth c L A H locs cells slots mc ms ls F r1 r2 r3 r4 r5 r6 r7 r8 hl)
theorem w_icmp_eq {x y : Int32} {off : Int} (tgt : Nat) (hdg : decode μ.2.1 pc = .ok (.if_icmp .eq off, 3)) (ht : (pc : Int) + off = (tgt : Int)) (kt : x = y → AWD l D cy μ d rc rs em g tgt lv st δ o) (kf : ¬ x = y → AWD l D cy μ d rc rs em g (pc + 3) lv st δ o2) : AWD l D cy μ d rc rs em g pc lv (.int y :: .int x :: st) δ (if x = y then o else o2) := by
  intro r hr P X hP
  by_cases z : x = y
  · rw [if_pos z] at hr
    exact a_icmp_eq tgt hdg ht (fun y => kt y r hr P X hP) (fun y => absurd z y)
  · rw [if_neg z] at hr
    exact a_icmp_eq tgt hdg ht (fun y => absurd y z) (fun y => kf y r hr P X hP)
theorem a_if_eq {x : Int32} {off : Int} (tgt : Nat) (hdg : decode μ.2.1 pc = .ok (.ifCond .eq off, 3)) (ht : (pc : Int) + off = (tgt : Int)) (kt : x = 0 → AW l D cy μ d rc rs P X tgt lv st h) (kf : ¬ x = 0 → AW l D cy μ d rc rs P X (pc + 3) lv st h) : AW l D cy μ d rc rs P X pc lv (.int x :: st) h := by
  intro p e R s m args below meth c L A H locs cells slots mc ms ls F r1 r2 r3 r4 r5 r6 r7 r8 hl
  exact lv_if_eq F.1 F.2.1 hdg ht (fun z => kt z p e R s m args below meth c L A H locs cells slots mc ms ls F r1 r2 r3 r4 r5 r6 r7 r8 hl) (fun z => kf z p e R s m args below meth c L A H locs cells slots mc ms ls F r1 r2 r3 r4 r5 r6 r7 r8 hl)
theorem w_if_eq {x : Int32} {off : Int} (tgt : Nat) (hdg : decode μ.2.1 pc = .ok (.ifCond .eq off, 3)) (ht : (pc : Int) + off = (tgt : Int)) (kt : x = 0 → AWD l D cy μ d rc rs em g tgt lv st δ o) (kf : ¬ x = 0 → AWD l D cy μ d rc rs em g (pc + 3) lv st δ o2) : AWD l D cy μ d rc rs em g pc lv (.int x :: st) δ (if x = 0 then o else o2) := by
  intro r hr P X hP
  by_cases z : x = 0
  · rw [if_pos z] at hr
    exact a_if_eq tgt hdg ht (fun y => kt y r hr P X hP) (fun y => absurd z y)
  · rw [if_neg z] at hr
    exact a_if_eq tgt hdg ht (fun y => absurd y z) (fun y => kf y r hr P X hP)
theorem a_icmp_ne {x y : Int32} {off : Int} (tgt : Nat) (hdg : decode μ.2.1 pc = .ok (.if_icmp .ne off, 3)) (ht : (pc : Int) + off = (tgt : Int)) (kt : ¬ x = y → AW l D cy μ d rc rs P X tgt lv st h) (kf : x = y → AW l D cy μ d rc rs P X (pc + 3) lv st h) : AW l D cy μ d rc rs P X pc lv (.int y :: .int x :: st) h := by
  intro p e R s m args below meth c L A H locs cells slots mc ms ls F r1 r2 r3 r4 r5 r6 r7 r8 hl
  exact lv_icmp_ne F.1 F.2.1 hdg ht (fun z => kt z p e R s m args below meth c L A H locs cells slots mc ms ls F r1 r2 r3 r4 r5 r6 r7 r8 hl) (fun z => kf z p e R s m args below meth c L A H locs cells slots mc ms ls F r1 r2 r3 r4 r5 r6 r7 r8 hl)
theorem w_icmp_ne {x y : Int32} {off : Int} (tgt : Nat) (hdg : decode μ.2.1 pc = .ok (.if_icmp .ne off, 3)) (ht : (pc : Int) + off = (tgt : Int)) (kt : ¬ x = y → AWD l D cy μ d rc rs em g tgt lv st δ o2) (kf : x = y → AWD l D cy μ d rc rs em g (pc + 3) lv st δ o) : AWD l D cy μ d rc rs em g pc lv (.int y :: .int x :: st) δ (if x = y then o else o2) := by
  intro r hr P X hP
  by_cases z : x = y
  · rw [if_pos z] at hr
    exact a_icmp_ne tgt hdg ht (fun y => absurd z y) (fun y => kf y r hr P X hP)
  · rw [if_neg z] at hr
    exact a_icmp_ne tgt hdg ht (fun y => kt y r hr P X hP) (fun y => absurd y z)
theorem a_if_ne {x : Int32} {off : Int} (tgt : Nat) (hdg : decode μ.2.1 pc = .ok (.ifCond .ne off, 3)) (ht : (pc : Int) + off = (tgt : Int)) (kt : ¬ x = 0 → AW l D cy μ d rc rs P X tgt lv st h) (kf : x = 0 → AW l D cy μ d rc rs P X (pc + 3) lv st h) : AW l D cy μ d rc rs P X pc lv (.int x :: st) h := by
  intro p e R s m args below meth c L A H locs cells slots mc ms ls F r1 r2 r3 r4 r5 r6 r7 r8 hl
  exact lv_if_ne F.1 F.2.1 hdg ht (fun z => kt z p e R s m args below meth c L A H locs cells slots mc ms ls F r1 r2 r3 r4 r5 r6 r7 r8 hl) (fun z => kf z p e R s m args below meth c L A H locs cells slots mc ms ls F r1 r2 r3 r4 r5 r6 r7 r8 hl)
theorem w_if_ne {x : Int32} {off : Int} (tgt : Nat) (hdg : decode μ.2.1 pc = .ok (.ifCond .ne off, 3)) (ht : (pc : Int) + off = (tgt : Int)) (kt : ¬ x = 0 → AWD l D cy μ d rc rs em g tgt lv st δ o2) (kf : x = 0 → AWD l D cy μ d rc rs em g (pc + 3) lv st δ o) : AWD l D cy μ d rc rs em g pc lv (.int x :: st) δ (if x = 0 then o else o2) := by
  intro r hr P X hP
  by_cases z : x = 0
  · rw [if_pos z] at hr
    exact a_if_ne tgt hdg ht (fun y => absurd z y) (fun y => kf y r hr P X hP)
  · rw [if_neg z] at hr
    exact a_if_ne tgt hdg ht (fun y => kt y r hr P X hP) (fun y => absurd y z)
theorem a_icmp_lt {x y : Int32} {off : Int} (tgt : Nat) (hdg : decode μ.2.1 pc = .ok (.if_icmp .lt off, 3)) (ht : (pc : Int) + off = (tgt : Int)) (kt : x < y → AW l D cy μ d rc rs P X tgt lv st h) (kf : ¬ x < y → AW l D cy μ d rc rs P X (pc + 3) lv st h) : AW l D cy μ d rc rs P X pc lv (.int y :: .int x :: st) h := by
  intro p e R s m args below meth c L A H locs cells slots mc ms ls F r1 r2 r3 r4 r5 r6 r7 r8 hl
  exact lv_icmp_lt F.1 F.2.1 hdg ht (fun z => kt z p e R s m args below meth c L A H locs cells slots mc ms ls F r1 r2 r3 r4 r5 r6 r7 r8 hl) (fun z => kf z p e R s m args below meth c L A H locs cells slots mc ms ls F r1 r2 r3 r4 r5 r6 r7 r8 hl)
theorem w_icmp_lt {x y : Int32} {off : Int} (tgt : Nat) (hdg : decode μ.2.1 pc = .ok (.if_icmp .lt off, 3)) (ht : (pc : Int) + off = (tgt : Int)) (kt : x < y → AWD l D cy μ d rc rs em g tgt lv st δ o) (kf : ¬ x < y → AWD l D cy μ d rc rs em g (pc + 3) lv st δ o2) : AWD l D cy μ d rc rs em g pc lv (.int y :: .int x :: st) δ (if x < y then o else o2) := by
  intro r hr P X hP
  by_cases z : x < y
  · rw [if_pos z] at hr
    exact a_icmp_lt tgt hdg ht (fun y => kt y r hr P X hP) (fun y => absurd z y)
  · rw [if_neg z] at hr
    exact a_icmp_lt tgt hdg ht (fun y => absurd y z) (fun y => kf y r hr P X hP)
theorem a_if_lt {x : Int32} {off : Int} (tgt : Nat) (hdg : decode μ.2.1 pc = .ok (.ifCond .lt off, 3)) (ht : (pc : Int) + off = (tgt : Int)) (kt : x < 0 → AW l D cy μ d rc rs P X tgt lv st h) (kf : ¬ x < 0 → AW l D cy μ d rc rs P X (pc + 3) lv st h) : AW l D cy μ d rc rs P X pc lv (.int x :: st) h := by
  intro p e R s m args below meth c L A H locs cells slots mc ms ls F r1 r2 r3 r4 r5 r6 r7 r8 hl
  exact lv_if_lt F.1 F.2.1 hdg ht (fun z => kt z p e R s m args below meth c L A H locs cells slots mc ms ls F r1 r2 r3 r4 r5 r6 r7 r8 hl) (fun z => kf z p e R s m args below meth c L A H locs cells slots mc ms ls F r1 r2 r3 r4 r5 r6 r7 r8 hl)
theorem w_if_lt {x : Int32} {off : Int} (tgt : Nat) (hdg : decode μ.2.1 pc = .ok (.ifCond .lt off, 3)) (ht : (pc : Int) + off = (tgt : Int)) (kt : x < 0 → AWD l D cy μ d rc rs em g tgt lv st δ o) (kf : ¬ x < 0 → AWD l D cy μ d rc rs em g (pc + 3) lv st δ o2) : AWD l D cy μ d rc rs em g pc lv (.int x :: st) δ (if x < 0 then o else o2) := by
  intro r hr P X hP
  by_cases z : x < 0
  · rw [if_pos z] at hr
    exact a_if_lt tgt hdg ht (fun y => kt y r hr P X hP) (fun y => absurd z y)
  · rw [if_neg z] at hr
    exact a_if_lt tgt hdg ht (fun y => absurd y z) (fun y => kf y r hr P X hP)
theorem a_icmp_ge {x y : Int32} {off : Int} (tgt : Nat) (hdg : decode μ.2.1 pc = .ok (.if_icmp .ge off, 3)) (ht : (pc : Int) + off = (tgt : Int)) (kt : y ≤ x → AW l D cy μ d rc rs P X tgt lv st h) (kf : ¬ y ≤ x → AW l D cy μ d rc rs P X (pc + 3) lv st h) : AW l D cy μ d rc rs P X pc lv (.int y :: .int x :: st) h := by
  intro p e R s m args below meth c L A H locs cells slots mc ms ls F r1 r2 r3 r4 r5 r6 r7 r8 hl
  exact lv_icmp_ge F.1 F.2.1 hdg ht (fun z => kt z p e R s m args below meth c L A H locs cells slots mc ms ls F r1 r2 r3 r4 r5 r6 r7 r8 hl) (fun z => kf z p e R s m args below meth c L A H locs cells slots mc ms ls F r1 r2 r3 r4 r5 r6 r7 r8 hl)
theorem w_icmp_ge {x y : Int32} {off : Int} (tgt : Nat) (hdg : decode μ.2.1 pc = .ok (.if_icmp .ge off, 3)) (ht : (pc : Int) + off = (tgt : Int)) (kt : y ≤ x → AWD l D cy μ d rc rs em g tgt lv st δ o) (kf : ¬ y ≤ x → AWD l D cy μ d rc rs em g (pc + 3) lv st δ o2) : AWD l D cy μ d rc rs em g pc lv (.int y :: .int x :: st) δ (if y ≤ x then o else o2) := by
  intro r hr P X hP
  by_cases z : y ≤ x
  · rw [if_pos z] at hr
    exact a_icmp_ge tgt hdg ht (fun y => kt y r hr P X hP) (fun y => absurd z y)
  · rw [if_neg z] at hr
    exact a_icmp_ge tgt hdg ht (fun y => absurd y z) (fun y => kf y r hr P X hP)
theorem a_if_ge {x : Int32} {off : Int} (tgt : Nat) (hdg : decode μ.2.1 pc = .ok (.ifCond .ge off, 3)) (ht : (pc : Int) + off = (tgt : Int)) (kt : 0 ≤ x → AW l D cy μ d rc rs P X tgt lv st h) (kf : ¬ 0 ≤ x → AW l D cy μ d rc rs P X (pc + 3) lv st h) : AW l D cy μ d rc rs P X pc lv (.int x :: st) h := by
  intro p e R s m args below meth c L A H locs cells slots mc ms ls F r1 r2 r3 r4 r5 r6 r7 r8 hl
  exact lv_if_ge F.1 F.2.1 hdg ht (fun z => kt z p e R s m args below meth c L A H locs cells slots mc ms ls F r1 r2 r3 r4 r5 r6 r7 r8 hl) (fun z => kf z p e R s m args below meth c L A H locs cells slots mc ms ls F r1 r2 r3 r4 r5 r6 r7 r8 hl)
theorem w_if_ge {x : Int32} {off : Int} (tgt : Nat) (hdg : decode μ.2.1 pc = .ok (.ifCond .ge off, 3)) (ht : (pc : Int) + off = (tgt : Int)) (kt : 0 ≤ x → AWD l D cy μ d rc rs em g tgt lv st δ o) (kf : ¬ 0 ≤ x → AWD l D cy μ d rc rs em g (pc + 3) lv st δ o2) : AWD l D cy μ d rc rs em g pc lv (.int x :: st) δ (if 0 ≤ x then o else o2) := by
  intro r hr P X hP
  by_cases z : 0 ≤ x
  · rw [if_pos z] at hr
    exact a_if_ge tgt hdg ht (fun y => kt y r hr P X hP) (fun y => absurd z y)
  · rw [if_neg z] at hr
    exact a_if_ge tgt hdg ht (fun y => absurd y z) (fun y => kf y r hr P X hP)
theorem a_icmp_gt {x y : Int32} {off : Int} (tgt : Nat) (hdg : decode μ.2.1 pc = .ok (.if_icmp .gt off, 3)) (ht : (pc : Int) + off = (tgt : Int)) (kt : y < x → AW l D cy μ d rc rs P X tgt lv st h) (kf : ¬ y < x → AW l D cy μ d rc rs P X (pc + 3) lv st h) : AW l D cy μ d rc rs P X pc lv (.int y :: .int x :: st) h := by
  intro p e R s m args below meth c L A H locs cells slots mc ms ls F r1 r2 r3 r4 r5 r6 r7 r8 hl
  exact lv_icmp_gt F.1 F.2.1 hdg ht (fun z => kt z p e R s m args below meth c L A H locs cells slots mc ms ls F r1 r2 r3 r4 r5 r6 r7 r8 hl) (fun z => kf z p e R s m args below meth c L A H locs cells slots mc ms ls F r1 r2 r3 r4 r5 r6 r7 r8 hl)
theorem w_icmp_gt {x y : Int32} {off : Int} (tgt : Nat) (hdg : decode μ.2.1 pc = .ok (.if_icmp .gt off, 3)) (ht : (pc : Int) + off = (tgt : Int)) (kt : y < x → AWD l D cy μ d rc rs em g tgt lv st δ o) (kf : ¬ y < x → AWD l D cy μ d rc rs em g (pc + 3) lv st δ o2) : AWD l D cy μ d rc rs em g pc lv (.int y :: .int x :: st) δ (if y < x then o else o2) := by
  intro r hr P X hP
  by_cases z : y < x
  · rw [if_pos z] at hr
    exact a_icmp_gt tgt hdg ht (fun y => kt y r hr P X hP) (fun y => absurd z y)
  · rw [if_neg z] at hr
    exact a_icmp_gt tgt hdg ht (fun y => absurd y z) (fun y => kf y r hr P X hP)
theorem a_if_gt {x : Int32} {off : Int} (tgt : Nat) (hdg : decode μ.2.1 pc = .ok (.ifCond .gt off, 3)) (ht : (pc : Int) + off = (tgt : Int)) (kt : 0 < x → AW l D cy μ d rc rs P X tgt lv st h) (kf : ¬ 0 < x → AW l D cy μ d rc rs P X (pc + 3) lv st h) : AW l D cy μ d rc rs P X pc lv (.int x :: st) h := by
  intro p e R s m args below meth c L A H locs cells slots mc ms ls F r1 r2 r3 r4 r5 r6 r7 r8 hl
  exact lv_if_gt F.1 F.2.1 hdg ht (fun z => kt z p e R s m args below meth c L A H locs cells slots mc ms ls F r1 r2 r3 r4 r5 r6 r7 r8 hl) (fun z => kf z p e R s m args below meth c L A H locs cells slots mc ms ls F r1 r2 r3 r4 r5 r6 r7 r8 hl)
theorem w_if_gt {x : Int32} {off : Int} (tgt : Nat) (hdg : decode μ.2.1 pc = .ok (.ifCond .gt off, 3)) (ht : (pc : Int) + off = (tgt : Int)) (kt : 0 < x → AWD l D cy μ d rc rs em g tgt lv st δ o) (kf : ¬ 0 < x → AWD l D cy μ d rc rs em g (pc + 3) lv st δ o2) : AWD l D cy μ d rc rs em g pc lv (.int x :: st) δ (if 0 < x then o else o2) := by
  intro r hr P X hP
  by_cases z : 0 < x
  · rw [if_pos z] at hr
    exact a_if_gt tgt hdg ht (fun y => kt y r hr P X hP) (fun y => absurd z y)
  · rw [if_neg z] at hr
    exact a_if_gt tgt hdg ht (fun y => absurd y z) (fun y => kf y r hr P X hP)
theorem a_icmp_le {x y : Int32} {off : Int} (tgt : Nat) (hdg : decode μ.2.1 pc = .ok (.if_icmp .le off, 3)) (ht : (pc : Int) + off = (tgt : Int)) (kt : x ≤ y → AW l D cy μ d rc rs P X tgt lv st h) (kf : ¬ x ≤ y → AW l D cy μ d rc rs P X (pc + 3) lv st h) : AW l D cy μ d rc rs P X pc lv (.int y :: .int x :: st) h := by
  intro p e R s m args below meth c L A H locs cells slots mc ms ls F r1 r2 r3 r4 r5 r6 r7 r8 hl
  exact lv_icmp_le F.1 F.2.1 hdg ht (fun z => kt z p e R s m args below meth c L A H locs cells slots mc ms ls F r1 r2 r3 r4 r5 r6 r7 r8 hl) (fun z => kf z p e R s m args below meth c L A H locs cells slots mc ms ls F r1 r2 r3 r4 r5 r6 r7 r8 hl)
theorem w_icmp_le {x y : Int32} {off : Int} (tgt : Nat) (hdg : decode μ.2.1 pc = .ok (.if_icmp .le off, 3)) (ht : (pc : Int) + off = (tgt : Int)) (kt : x ≤ y → AWD l D cy μ d rc rs em g tgt lv st δ o) (kf : ¬ x ≤ y → AWD l D cy μ d rc rs em g (pc + 3) lv st δ o2) : AWD l D cy μ d rc rs em g pc lv (.int y :: .int x :: st) δ (if x ≤ y then o else o2) := by
  intro r hr P X hP
  by_cases z : x ≤ y
  · rw [if_pos z] at hr
    exact a_icmp_le tgt hdg ht (fun y => kt y r hr P X hP) (fun y => absurd z y)
  · rw [if_neg z] at hr
    exact a_icmp_le tgt hdg ht (fun y => absurd y z) (fun y => kf y r hr P X hP)
theorem a_if_le {x : Int32} {off : Int} (tgt : Nat) (hdg : decode μ.2.1 pc = .ok (.ifCond .le off, 3)) (ht : (pc : Int) + off = (tgt : Int)) (kt : x ≤ 0 → AW l D cy μ d rc rs P X tgt lv st h) (kf : ¬ x ≤ 0 → AW l D cy μ d rc rs P X (pc + 3) lv st h) : AW l D cy μ d rc rs P X pc lv (.int x :: st) h := by
  intro p e R s m args below meth c L A H locs cells slots mc ms ls F r1 r2 r3 r4 r5 r6 r7 r8 hl
  exact lv_if_le F.1 F.2.1 hdg ht (fun z => kt z p e R s m args below meth c L A H locs cells slots mc ms ls F r1 r2 r3 r4 r5 r6 r7 r8 hl) (fun z => kf z p e R s m args below meth c L A H locs cells slots mc ms ls F r1 r2 r3 r4 r5 r6 r7 r8 hl)
theorem w_if_le {x : Int32} {off : Int} (tgt : Nat) (hdg : decode μ.2.1 pc = .ok (.ifCond .le off, 3)) (ht : (pc : Int) + off = (tgt : Int)) (kt : x ≤ 0 → AWD l D cy μ d rc rs em g tgt lv st δ o) (kf : ¬ x ≤ 0 → AWD l D cy μ d rc rs em g (pc + 3) lv st δ o2) : AWD l D cy μ d rc rs em g pc lv (.int x :: st) δ (if x ≤ 0 then o else o2) := by
  intro r hr P X hP
  by_cases z : x ≤ 0
  · rw [if_pos z] at hr
    exact a_if_le tgt hdg ht (fun y => kt y r hr P X hP) (fun y => absurd z y)
  · rw [if_neg z] at hr
    exact a_if_le tgt hdg ht (fun y => absurd y z) (fun y => kf y r hr P X hP)
theorem a_acmp_eq {rx ry : Option Nat} {off : Int} (tgt : Nat) (hdg : decode μ.2.1 pc = .ok (.if_acmp .eq off, 3)) (ht : (pc : Int) + off = (tgt : Int)) (kt : rx = ry → AW l D cy μ d rc rs P X tgt lv st h) (kf : ¬ rx = ry → AW l D cy μ d rc rs P X (pc + 3) lv st h) : AW l D cy μ d rc rs P X pc lv (va_rf ry :: va_rf rx :: st) h := by
  intro p e R s m args below meth c L A H locs cells slots mc ms ls F r1 r2 r3 r4 r5 r6 r7 r8 hl
  exact lv_acmp_eq F.1 F.2.1 hdg ht (fun z => kt z p e R s m args below meth c L A H locs cells slots mc ms ls F r1 r2 r3 r4 r5 r6 r7 r8 hl) (fun z => kf z p e R s m args below meth c L A H locs cells slots mc ms ls F r1 r2 r3 r4 r5 r6 r7 r8 hl)
theorem w_acmp_eq {rx ry : Option Nat} {off : Int} (tgt : Nat) (hdg : decode μ.2.1 pc = .ok (.if_acmp .eq off, 3)) (ht : (pc : Int) + off = (tgt : Int)) (kt : rx = ry → AWD l D cy μ d rc rs em g tgt lv st δ o) (kf : ¬ rx = ry → AWD l D cy μ d rc rs em g (pc + 3) lv st δ o2) : AWD l D cy μ d rc rs em g pc lv (va_rf ry :: va_rf rx :: st) δ (if rx = ry then o else o2) := by
  intro r hr P X hP
  by_cases z : rx = ry
  · rw [if_pos z] at hr
    exact a_acmp_eq tgt hdg ht (fun y => kt y r hr P X hP) (fun y => absurd z y)
  · rw [if_neg z] at hr
    exact a_acmp_eq tgt hdg ht (fun y => absurd y z) (fun y => kf y r hr P X hP)
theorem a_acmp_ne {rx ry : Option Nat} {off : Int} (tgt : Nat) (hdg : decode μ.2.1 pc = .ok (.if_acmp .ne off, 3)) (ht : (pc : Int) + off = (tgt : Int)) (kt : ¬ rx = ry → AW l D cy μ d rc rs P X tgt lv st h) (kf : rx = ry → AW l D cy μ d rc rs P X (pc + 3) lv st h) : AW l D cy μ d rc rs P X pc lv (va_rf ry :: va_rf rx :: st) h := by
  intro p e R s m args below meth c L A H locs cells slots mc ms ls F r1 r2 r3 r4 r5 r6 r7 r8 hl
  exact lv_acmp_ne F.1 F.2.1 hdg ht (fun z => kt z p e R s m args below meth c L A H locs cells slots mc ms ls F r1 r2 r3 r4 r5 r6 r7 r8 hl) (fun z => kf z p e R s m args below meth c L A H locs cells slots mc ms ls F r1 r2 r3 r4 r5 r6 r7 r8 hl)
theorem w_acmp_ne {rx ry : Option Nat} {off : Int} (tgt : Nat) (hdg : decode μ.2.1 pc = .ok (.if_acmp .ne off, 3)) (ht : (pc : Int) + off = (tgt : Int)) (kt : ¬ rx = ry → AWD l D cy μ d rc rs em g tgt lv st δ o2) (kf : rx = ry → AWD l D cy μ d rc rs em g (pc + 3) lv st δ o) : AWD l D cy μ d rc rs em g pc lv (va_rf ry :: va_rf rx :: st) δ (if rx = ry then o else o2) := by
  intro r hr P X hP
  by_cases z : rx = ry
  · rw [if_pos z] at hr
    exact a_acmp_ne tgt hdg ht (fun y => absurd z y) (fun y => kf y r hr P X hP)
  · rw [if_neg z] at hr
    exact a_acmp_ne tgt hdg ht (fun y => kt y r hr P X hP) (fun y => absurd y z)
theorem a_tabIn {x : Int32} {dflt lo hi : Int} {offs : Array Int} {len : Nat} {off : Int} (tgt : Nat) (hdg : decode μ.2.1 pc = .ok (.tableswitch dflt lo hi offs, len)) (h1 : ¬ x.toInt < lo) (h2 : ¬ hi < x.toInt) (ho : offs[(x.toInt - lo).toNat]? = some off) (ht : (pc : Int) + off = (tgt : Int)) (k : AW l D cy μ d rc rs P X tgt lv st h) : AW l D cy μ d rc rs P X pc lv (.int x :: st) h := by
  intro p e R s m args below meth c L A H locs cells slots mc ms ls F r1 r2 r3 r4 r5 r6 r7 r8 hl
  exact lv_tableIn F.1 F.2.1 hdg h1 h2 ho ht (k p e R s m args below meth c L A H locs cells slots mc ms ls F r1 r2 r3 r4 r5 r6 r7 r8 hl)
theorem a_tabOut {x : Int32} {dflt lo hi : Int} {offs : Array Int} {len : Nat} (tgt : Nat) (hdg : decode μ.2.1 pc = .ok (.tableswitch dflt lo hi offs, len)) (h1 : x.toInt < lo ∨ hi < x.toInt) (ht : (pc : Int) + dflt = (tgt : Int)) (k : AW l D cy μ d rc rs P X tgt lv st h) : AW l D cy μ d rc rs P X pc lv (.int x :: st) h := by
  intro p e R s m args below meth c L A H locs cells slots mc ms ls F r1 r2 r3 r4 r5 r6 r7 r8 hl
  exact lv_tableOut F.1 F.2.1 hdg h1 ht (k p e R s m args below meth c L A H locs cells slots mc ms ls F r1 r2 r3 r4 r5 r6 r7 r8 hl)
theorem w_tabIn {x : Int32} {dflt lo hi : Int} {offs : Array Int} {len : Nat} {off : Int} (tgt : Nat) (n : Int32) (hx : x = n) (hdg : decode μ.2.1 pc = .ok (.tableswitch dflt lo hi offs, len)) (h1 : ¬ n.toInt < lo) (h2 : ¬ hi < n.toInt) (ho : offs[(n.toInt - lo).toNat]? = some off) (ht : (pc : Int) + off = (tgt : Int)) (k : AWD l D cy μ d rc rs em g tgt lv st δ o) : AWD l D cy μ d rc rs em g pc lv (.int x :: st) δ o := by
  subst hx
  exact fun r hr P X hP => a_tabIn tgt hdg h1 h2 ho ht (k r hr P X hP)
theorem w_tabOut {x : Int32} {dflt lo hi : Int} {offs : Array Int} {len : Nat} (tgt : Nat) (hdg : decode μ.2.1 pc = .ok (.tableswitch dflt lo hi offs, len)) (h1 : x.toInt < lo ∨ hi < x.toInt) (ht : (pc : Int) + dflt = (tgt : Int)) (k : AWD l D cy μ d rc rs em g tgt lv st δ o) : AWD l D cy μ d rc rs em g pc lv (.int x :: st) δ o := fun r hr P X hP => a_tabOut tgt hdg h1 ht (k r hr P X hP)
end RW
