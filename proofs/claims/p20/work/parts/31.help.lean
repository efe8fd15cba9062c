/-! the law's helpers (by gen_help.py) -/
theorem ctc.mk' {hh : List (Nat × Nat × Nat × Nat)} {own : String} {pc : Nat} {E : String} {K : Nat → Prop} (pre : List ExceptionTableEntry) (x : ExceptionTableEntry) (suf : List ExceptionTableEntry) (name : String) (h1 : tableOf hh = pre ++ x :: suf) (h2 : ∀ z ∈ pre, covers z pc = false ∨ (z.catchType ≠ 0 ∧ ∃ nm : String, Cond.classLink own z.catchType nm ∈ TT ∧ (E, nm) ∈ ncl)) (h3 : covers x pc = true) (h4 : x.catchType ≠ 0) (h5 : Cond.classLink own x.catchType name ∈ TT) (h6 : Cond.castable E name ∈ NW) (h7 : K x.handlerPc) : ctc hh own pc E K := ⟨pre, x, suf, name, h1, h2, h3, h4, h5, h6, h7⟩
theorem emk_x {n : Nat} (k : Nat) (hn : exn k = exn n) {δ : dp} {P : Option Value → hp → Prop} {X : String → hp → Prop} {g : gp} (h : X (exn k) (g, δ)) : emk (ex (.inr n, δ)) P X g := by
  show X (exn n) (g, δ)
  rw [← hn]
  exact h
theorem ca_2 : Cond.castable (exn 2) (exn 2) ∈ NW := N_3 60 rfl rfl
theorem ca_0 : Cond.castable (exn 0) (exn 0) ∈ NW := N_4 104 rfl rfl
theorem ca_1 : Cond.castable (exn 1) (exn 1) ∈ NW := N_6 14 rfl rfl
theorem lk_13 : Cond.classLink RL 13 (exn 2) ∈ TT := T_3 49 rfl rfl
theorem lk_25 : Cond.classLink RL 25 (exn 0) ∈ TT := T_4 93 rfl rfl
theorem lk_87 : Cond.classLink RL 87 (exn 1) ∈ TT := T_6 3 rfl rfl
theorem dL_shape_0 : decode cL_shape 0 = .ok (.aload_n 2, 1) := by decide +kernel
theorem dL_shape_1 : decode cL_shape 1 = .ok (.iconst 0, 1) := by decide +kernel
theorem dL_shape_2 : decode cL_shape 2 = .ok (.aload_n 0, 1) := by decide +kernel
theorem dL_shape_3 : decode cL_shape 3 = .ok (.iload_n 1, 1) := by decide +kernel
theorem dL_shape_4 : decode cL_shape 4 = .ok (.invokevirtual 7, 3) := by decide +kernel
theorem dL_shape_7 : decode cL_shape 7 = .ok (.i2l, 1) := by decide +kernel
theorem dL_shape_8 : decode cL_shape 8 = .ok (.lastore, 1) := by decide +kernel
theorem dL_shape_9 : decode cL_shape 9 = .ok (.goto 6, 3) := by decide +kernel
theorem dL_shape_12 : decode cL_shape 12 = .ok (.astore_n 3, 1) := by decide +kernel
theorem dL_shape_13 : decode cL_shape 13 = .ok (.iconst 1, 1) := by decide +kernel
theorem dL_shape_14 : decode cL_shape 14 = .ok (.ireturn, 1) := by decide +kernel
theorem dL_shape_15 : decode cL_shape 15 = .ok (.iconst 0, 1) := by decide +kernel
theorem dL_shape_16 : decode cL_shape 16 = .ok (.ireturn, 1) := by decide +kernel
theorem dL_thief_0 : decode cL_thief 0 = .ok (.aload_n 2, 1) := by decide +kernel
theorem dL_thief_1 : decode cL_thief 1 = .ok (.iconst 0, 1) := by decide +kernel
theorem dL_thief_2 : decode cL_thief 2 = .ok (.aload_n 0, 1) := by decide +kernel
theorem dL_thief_3 : decode cL_thief 3 = .ok (.iload_n 1, 1) := by decide +kernel
theorem dL_thief_4 : decode cL_thief 4 = .ok (.invokevirtual 15, 3) := by decide +kernel
theorem dL_thief_7 : decode cL_thief 7 = .ok (.i2l, 1) := by decide +kernel
theorem dL_thief_8 : decode cL_thief 8 = .ok (.lastore, 1) := by decide +kernel
theorem dL_thief_9 : decode cL_thief 9 = .ok (.goto 6, 3) := by decide +kernel
theorem dL_thief_12 : decode cL_thief 12 = .ok (.astore_n 3, 1) := by decide +kernel
theorem dL_thief_13 : decode cL_thief 13 = .ok (.iconst 1, 1) := by decide +kernel
theorem dL_thief_14 : decode cL_thief 14 = .ok (.ireturn, 1) := by decide +kernel
theorem dL_thief_15 : decode cL_thief 15 = .ok (.iconst 0, 1) := by decide +kernel
theorem dL_thief_16 : decode cL_thief 16 = .ok (.ireturn, 1) := by decide +kernel
theorem dL_told_0 : decode cL_told 0 = .ok (.aload_n 2, 1) := by decide +kernel
theorem dL_told_1 : decode cL_told 1 = .ok (.iconst 0, 1) := by decide +kernel
theorem dL_told_2 : decode cL_told 2 = .ok (.aload_n 0, 1) := by decide +kernel
theorem dL_told_3 : decode cL_told 3 = .ok (.iload_n 1, 1) := by decide +kernel
theorem dL_told_4 : decode cL_told 4 = .ok (.invokevirtual 18, 3) := by decide +kernel
theorem dL_told_7 : decode cL_told 7 = .ok (.i2l, 1) := by decide +kernel
theorem dL_told_8 : decode cL_told 8 = .ok (.lastore, 1) := by decide +kernel
theorem dL_told_9 : decode cL_told 9 = .ok (.goto 6, 3) := by decide +kernel
theorem dL_told_12 : decode cL_told 12 = .ok (.astore_n 3, 1) := by decide +kernel
theorem dL_told_13 : decode cL_told 13 = .ok (.iconst 1, 1) := by decide +kernel
theorem dL_told_14 : decode cL_told 14 = .ok (.ireturn, 1) := by decide +kernel
theorem dL_told_15 : decode cL_told 15 = .ok (.iconst 0, 1) := by decide +kernel
theorem dL_told_16 : decode cL_told 16 = .ok (.ireturn, 1) := by decide +kernel
theorem dL_put_0 : decode cL_put 0 = .ok (.aload_n 3, 1) := by decide +kernel
theorem dL_put_1 : decode cL_put 1 = .ok (.iconst 0, 1) := by decide +kernel
theorem dL_put_2 : decode cL_put 2 = .ok (.aload_n 0, 1) := by decide +kernel
theorem dL_put_3 : decode cL_put 3 = .ok (.iload_n 1, 1) := by decide +kernel
theorem dL_put_4 : decode cL_put 4 = .ok (.iload_n 2, 1) := by decide +kernel
theorem dL_put_5 : decode cL_put 5 = .ok (.invokevirtual 21, 3) := by decide +kernel
theorem dL_put_8 : decode cL_put 8 = .ok (.i2l, 1) := by decide +kernel
theorem dL_put_9 : decode cL_put 9 = .ok (.lastore, 1) := by decide +kernel
theorem dL_put_10 : decode cL_put 10 = .ok (.goto 11, 3) := by decide +kernel
theorem dL_put_13 : decode cL_put 13 = .ok (.astore 4, 2) := by decide +kernel
theorem dL_put_15 : decode cL_put 15 = .ok (.iconst 1, 1) := by decide +kernel
theorem dL_put_16 : decode cL_put 16 = .ok (.ireturn, 1) := by decide +kernel
theorem dL_put_17 : decode cL_put 17 = .ok (.astore 4, 2) := by decide +kernel
theorem dL_put_19 : decode cL_put 19 = .ok (.iconst 2, 1) := by decide +kernel
theorem dL_put_20 : decode cL_put 20 = .ok (.ireturn, 1) := by decide +kernel
theorem dL_put_21 : decode cL_put 21 = .ok (.iconst 0, 1) := by decide +kernel
theorem dL_put_22 : decode cL_put 22 = .ok (.ireturn, 1) := by decide +kernel
theorem dL_drop_0 : decode cL_drop 0 = .ok (.aload_n 3, 1) := by decide +kernel
theorem dL_drop_1 : decode cL_drop 1 = .ok (.iconst 0, 1) := by decide +kernel
theorem dL_drop_2 : decode cL_drop 2 = .ok (.aload_n 0, 1) := by decide +kernel
theorem dL_drop_3 : decode cL_drop 3 = .ok (.iload_n 1, 1) := by decide +kernel
theorem dL_drop_4 : decode cL_drop 4 = .ok (.iload_n 2, 1) := by decide +kernel
theorem dL_drop_5 : decode cL_drop 5 = .ok (.invokevirtual 27, 3) := by decide +kernel
theorem dL_drop_8 : decode cL_drop 8 = .ok (.i2l, 1) := by decide +kernel
theorem dL_drop_9 : decode cL_drop 9 = .ok (.lastore, 1) := by decide +kernel
theorem dL_drop_10 : decode cL_drop 10 = .ok (.goto 11, 3) := by decide +kernel
theorem dL_drop_13 : decode cL_drop 13 = .ok (.astore 4, 2) := by decide +kernel
theorem dL_drop_15 : decode cL_drop 15 = .ok (.iconst 1, 1) := by decide +kernel
theorem dL_drop_16 : decode cL_drop 16 = .ok (.ireturn, 1) := by decide +kernel
theorem dL_drop_17 : decode cL_drop 17 = .ok (.astore 4, 2) := by decide +kernel
theorem dL_drop_19 : decode cL_drop 19 = .ok (.iconst 2, 1) := by decide +kernel
theorem dL_drop_20 : decode cL_drop 20 = .ok (.ireturn, 1) := by decide +kernel
theorem dL_drop_21 : decode cL_drop 21 = .ok (.iconst 0, 1) := by decide +kernel
theorem dL_drop_22 : decode cL_drop 22 = .ok (.ireturn, 1) := by decide +kernel
theorem dL_has_0 : decode cL_has 0 = .ok (.aload_n 3, 1) := by decide +kernel
theorem dL_has_1 : decode cL_has 1 = .ok (.iconst 0, 1) := by decide +kernel
theorem dL_has_2 : decode cL_has 2 = .ok (.aload_n 0, 1) := by decide +kernel
theorem dL_has_3 : decode cL_has 3 = .ok (.iload_n 1, 1) := by decide +kernel
theorem dL_has_4 : decode cL_has 4 = .ok (.iload_n 2, 1) := by decide +kernel
theorem dL_has_5 : decode cL_has 5 = .ok (.invokevirtual 30, 3) := by decide +kernel
theorem dL_has_8 : decode cL_has 8 = .ok (.ifCond .eq 7, 3) := by decide +kernel
theorem dL_has_11 : decode cL_has 11 = .ok (.lconst 1, 1) := by decide +kernel
theorem dL_has_12 : decode cL_has 12 = .ok (.goto 4, 3) := by decide +kernel
theorem dL_has_15 : decode cL_has 15 = .ok (.lconst 0, 1) := by decide +kernel
theorem dL_has_16 : decode cL_has 16 = .ok (.lastore, 1) := by decide +kernel
theorem dL_has_17 : decode cL_has 17 = .ok (.goto 11, 3) := by decide +kernel
theorem dL_has_20 : decode cL_has 20 = .ok (.astore 4, 2) := by decide +kernel
theorem dL_has_22 : decode cL_has 22 = .ok (.iconst 1, 1) := by decide +kernel
theorem dL_has_23 : decode cL_has 23 = .ok (.ireturn, 1) := by decide +kernel
theorem dL_has_24 : decode cL_has 24 = .ok (.astore 4, 2) := by decide +kernel
theorem dL_has_26 : decode cL_has 26 = .ok (.iconst 2, 1) := by decide +kernel
theorem dL_has_27 : decode cL_has 27 = .ok (.ireturn, 1) := by decide +kernel
theorem dL_has_28 : decode cL_has 28 = .ok (.iconst 0, 1) := by decide +kernel
theorem dL_has_29 : decode cL_has 29 = .ok (.ireturn, 1) := by decide +kernel
theorem dL_of_0 : decode cL_of 0 = .ok (.aload_n 3, 1) := by decide +kernel
theorem dL_of_1 : decode cL_of 1 = .ok (.iconst 0, 1) := by decide +kernel
theorem dL_of_2 : decode cL_of 2 = .ok (.aload_n 0, 1) := by decide +kernel
theorem dL_of_3 : decode cL_of 3 = .ok (.iload_n 1, 1) := by decide +kernel
theorem dL_of_4 : decode cL_of 4 = .ok (.iload_n 2, 1) := by decide +kernel
theorem dL_of_5 : decode cL_of 5 = .ok (.invokevirtual 34, 3) := by decide +kernel
theorem dL_of_8 : decode cL_of 8 = .ok (.i2l, 1) := by decide +kernel
theorem dL_of_9 : decode cL_of 9 = .ok (.lastore, 1) := by decide +kernel
theorem dL_of_10 : decode cL_of 10 = .ok (.goto 11, 3) := by decide +kernel
theorem dL_of_13 : decode cL_of 13 = .ok (.astore 4, 2) := by decide +kernel
theorem dL_of_15 : decode cL_of 15 = .ok (.iconst 1, 1) := by decide +kernel
theorem dL_of_16 : decode cL_of 16 = .ok (.ireturn, 1) := by decide +kernel
theorem dL_of_17 : decode cL_of 17 = .ok (.astore 4, 2) := by decide +kernel
theorem dL_of_19 : decode cL_of 19 = .ok (.iconst 2, 1) := by decide +kernel
theorem dL_of_20 : decode cL_of 20 = .ok (.ireturn, 1) := by decide +kernel
theorem dL_of_21 : decode cL_of 21 = .ok (.iconst 0, 1) := by decide +kernel
theorem dL_of_22 : decode cL_of 22 = .ok (.ireturn, 1) := by decide +kernel
theorem dL_next_0 : decode cL_next 0 = .ok (.aload_n 3, 1) := by decide +kernel
theorem dL_next_1 : decode cL_next 1 = .ok (.iconst 0, 1) := by decide +kernel
theorem dL_next_2 : decode cL_next 2 = .ok (.aload_n 0, 1) := by decide +kernel
theorem dL_next_3 : decode cL_next 3 = .ok (.iload_n 1, 1) := by decide +kernel
theorem dL_next_4 : decode cL_next 4 = .ok (.iload_n 2, 1) := by decide +kernel
theorem dL_next_5 : decode cL_next 5 = .ok (.invokevirtual 37, 3) := by decide +kernel
theorem dL_next_8 : decode cL_next 8 = .ok (.i2l, 1) := by decide +kernel
theorem dL_next_9 : decode cL_next 9 = .ok (.lastore, 1) := by decide +kernel
theorem dL_next_10 : decode cL_next 10 = .ok (.goto 11, 3) := by decide +kernel
theorem dL_next_13 : decode cL_next 13 = .ok (.astore 4, 2) := by decide +kernel
theorem dL_next_15 : decode cL_next 15 = .ok (.iconst 1, 1) := by decide +kernel
theorem dL_next_16 : decode cL_next 16 = .ok (.ireturn, 1) := by decide +kernel
theorem dL_next_17 : decode cL_next 17 = .ok (.astore 4, 2) := by decide +kernel
theorem dL_next_19 : decode cL_next 19 = .ok (.iconst 2, 1) := by decide +kernel
theorem dL_next_20 : decode cL_next 20 = .ok (.ireturn, 1) := by decide +kernel
theorem dL_next_21 : decode cL_next 21 = .ok (.iconst 0, 1) := by decide +kernel
theorem dL_next_22 : decode cL_next 22 = .ok (.ireturn, 1) := by decide +kernel
theorem dL_before_0 : decode cL_before 0 = .ok (.aload_n 3, 1) := by decide +kernel
theorem dL_before_1 : decode cL_before 1 = .ok (.iconst 0, 1) := by decide +kernel
theorem dL_before_2 : decode cL_before 2 = .ok (.aload_n 0, 1) := by decide +kernel
theorem dL_before_3 : decode cL_before 3 = .ok (.iload_n 1, 1) := by decide +kernel
theorem dL_before_4 : decode cL_before 4 = .ok (.iload_n 2, 1) := by decide +kernel
theorem dL_before_5 : decode cL_before 5 = .ok (.invokevirtual 40, 3) := by decide +kernel
theorem dL_before_8 : decode cL_before 8 = .ok (.i2l, 1) := by decide +kernel
theorem dL_before_9 : decode cL_before 9 = .ok (.lastore, 1) := by decide +kernel
theorem dL_before_10 : decode cL_before 10 = .ok (.goto 11, 3) := by decide +kernel
theorem dL_before_13 : decode cL_before 13 = .ok (.astore 4, 2) := by decide +kernel
theorem dL_before_15 : decode cL_before 15 = .ok (.iconst 1, 1) := by decide +kernel
theorem dL_before_16 : decode cL_before 16 = .ok (.ireturn, 1) := by decide +kernel
theorem dL_before_17 : decode cL_before 17 = .ok (.astore 4, 2) := by decide +kernel
theorem dL_before_19 : decode cL_before 19 = .ok (.iconst 2, 1) := by decide +kernel
theorem dL_before_20 : decode cL_before 20 = .ok (.ireturn, 1) := by decide +kernel
theorem dL_before_21 : decode cL_before 21 = .ok (.iconst 0, 1) := by decide +kernel
theorem dL_before_22 : decode cL_before 22 = .ok (.ireturn, 1) := by decide +kernel
theorem dL_kth_0 : decode cL_kth 0 = .ok (.aload_n 3, 1) := by decide +kernel
theorem dL_kth_1 : decode cL_kth 1 = .ok (.iconst 0, 1) := by decide +kernel
theorem dL_kth_2 : decode cL_kth 2 = .ok (.aload_n 0, 1) := by decide +kernel
theorem dL_kth_3 : decode cL_kth 3 = .ok (.iload_n 1, 1) := by decide +kernel
theorem dL_kth_4 : decode cL_kth 4 = .ok (.iload_n 2, 1) := by decide +kernel
theorem dL_kth_5 : decode cL_kth 5 = .ok (.invokevirtual 43, 3) := by decide +kernel
theorem dL_kth_8 : decode cL_kth 8 = .ok (.i2l, 1) := by decide +kernel
theorem dL_kth_9 : decode cL_kth 9 = .ok (.lastore, 1) := by decide +kernel
theorem dL_kth_10 : decode cL_kth 10 = .ok (.goto 7, 3) := by decide +kernel
theorem dL_kth_13 : decode cL_kth 13 = .ok (.astore 4, 2) := by decide +kernel
theorem dL_kth_15 : decode cL_kth 15 = .ok (.iconst 1, 1) := by decide +kernel
theorem dL_kth_16 : decode cL_kth 16 = .ok (.ireturn, 1) := by decide +kernel
theorem dL_kth_17 : decode cL_kth 17 = .ok (.iconst 0, 1) := by decide +kernel
theorem dL_kth_18 : decode cL_kth 18 = .ok (.ireturn, 1) := by decide +kernel
theorem dL_between_0 : decode cL_between 0 = .ok (.aload 4, 2) := by decide +kernel
theorem dL_between_2 : decode cL_between 2 = .ok (.iconst 0, 1) := by decide +kernel
theorem dL_between_3 : decode cL_between 3 = .ok (.aload_n 0, 1) := by decide +kernel
theorem dL_between_4 : decode cL_between 4 = .ok (.iload_n 1, 1) := by decide +kernel
theorem dL_between_5 : decode cL_between 5 = .ok (.iload_n 2, 1) := by decide +kernel
theorem dL_between_6 : decode cL_between 6 = .ok (.iload_n 3, 1) := by decide +kernel
theorem dL_between_7 : decode cL_between 7 = .ok (.invokevirtual 46, 3) := by decide +kernel
theorem dL_between_10 : decode cL_between 10 = .ok (.i2l, 1) := by decide +kernel
theorem dL_between_11 : decode cL_between 11 = .ok (.lastore, 1) := by decide +kernel
theorem dL_between_12 : decode cL_between 12 = .ok (.goto 11, 3) := by decide +kernel
theorem dL_between_15 : decode cL_between 15 = .ok (.astore 5, 2) := by decide +kernel
theorem dL_between_17 : decode cL_between 17 = .ok (.iconst 1, 1) := by decide +kernel
theorem dL_between_18 : decode cL_between 18 = .ok (.ireturn, 1) := by decide +kernel
theorem dL_between_19 : decode cL_between 19 = .ok (.astore 5, 2) := by decide +kernel
theorem dL_between_21 : decode cL_between 21 = .ok (.iconst 2, 1) := by decide +kernel
theorem dL_between_22 : decode cL_between 22 = .ok (.ireturn, 1) := by decide +kernel
theorem dL_between_23 : decode cL_between 23 = .ok (.iconst 0, 1) := by decide +kernel
theorem dL_between_24 : decode cL_between 24 = .ok (.ireturn, 1) := by decide +kernel
theorem dL_touches_0 : decode cL_touches 0 = .ok (.aload 5, 2) := by decide +kernel
theorem dL_touches_2 : decode cL_touches 2 = .ok (.iconst 0, 1) := by decide +kernel
theorem dL_touches_3 : decode cL_touches 3 = .ok (.aload_n 0, 1) := by decide +kernel
theorem dL_touches_4 : decode cL_touches 4 = .ok (.iload_n 1, 1) := by decide +kernel
theorem dL_touches_5 : decode cL_touches 5 = .ok (.iload_n 2, 1) := by decide +kernel
theorem dL_touches_6 : decode cL_touches 6 = .ok (.iload_n 3, 1) := by decide +kernel
theorem dL_touches_7 : decode cL_touches 7 = .ok (.iload 4, 2) := by decide +kernel
theorem dL_touches_9 : decode cL_touches 9 = .ok (.invokevirtual 50, 3) := by decide +kernel
theorem dL_touches_12 : decode cL_touches 12 = .ok (.i2l, 1) := by decide +kernel
theorem dL_touches_13 : decode cL_touches 13 = .ok (.lastore, 1) := by decide +kernel
theorem dL_touches_14 : decode cL_touches 14 = .ok (.goto 11, 3) := by decide +kernel
theorem dL_touches_17 : decode cL_touches 17 = .ok (.astore 6, 2) := by decide +kernel
theorem dL_touches_19 : decode cL_touches 19 = .ok (.iconst 1, 1) := by decide +kernel
theorem dL_touches_20 : decode cL_touches 20 = .ok (.ireturn, 1) := by decide +kernel
theorem dL_touches_21 : decode cL_touches 21 = .ok (.astore 6, 2) := by decide +kernel
theorem dL_touches_23 : decode cL_touches 23 = .ok (.iconst 2, 1) := by decide +kernel
theorem dL_touches_24 : decode cL_touches 24 = .ok (.ireturn, 1) := by decide +kernel
theorem dL_touches_25 : decode cL_touches 25 = .ok (.iconst 0, 1) := by decide +kernel
theorem dL_touches_26 : decode cL_touches 26 = .ok (.ireturn, 1) := by decide +kernel
theorem dL_size_0 : decode cL_size 0 = .ok (.aload_n 3, 1) := by decide +kernel
theorem dL_size_1 : decode cL_size 1 = .ok (.iconst 0, 1) := by decide +kernel
theorem dL_size_2 : decode cL_size 2 = .ok (.aload_n 0, 1) := by decide +kernel
theorem dL_size_3 : decode cL_size 3 = .ok (.iload_n 1, 1) := by decide +kernel
theorem dL_size_4 : decode cL_size 4 = .ok (.iload_n 2, 1) := by decide +kernel
theorem dL_size_5 : decode cL_size 5 = .ok (.invokevirtual 54, 3) := by decide +kernel
theorem dL_size_8 : decode cL_size 8 = .ok (.i2l, 1) := by decide +kernel
theorem dL_size_9 : decode cL_size 9 = .ok (.lastore, 1) := by decide +kernel
theorem dL_size_10 : decode cL_size 10 = .ok (.goto 11, 3) := by decide +kernel
theorem dL_size_13 : decode cL_size 13 = .ok (.astore 4, 2) := by decide +kernel
theorem dL_size_15 : decode cL_size 15 = .ok (.iconst 1, 1) := by decide +kernel
theorem dL_size_16 : decode cL_size 16 = .ok (.ireturn, 1) := by decide +kernel
theorem dL_size_17 : decode cL_size 17 = .ok (.astore 4, 2) := by decide +kernel
theorem dL_size_19 : decode cL_size 19 = .ok (.iconst 2, 1) := by decide +kernel
theorem dL_size_20 : decode cL_size 20 = .ok (.ireturn, 1) := by decide +kernel
theorem dL_size_21 : decode cL_size 21 = .ok (.iconst 0, 1) := by decide +kernel
theorem dL_size_22 : decode cL_size 22 = .ok (.ireturn, 1) := by decide +kernel
theorem dL_bound_0 : decode cL_bound 0 = .ok (.aload_n 2, 1) := by decide +kernel
theorem dL_bound_1 : decode cL_bound 1 = .ok (.iconst 0, 1) := by decide +kernel
theorem dL_bound_2 : decode cL_bound 2 = .ok (.aload_n 0, 1) := by decide +kernel
theorem dL_bound_3 : decode cL_bound 3 = .ok (.iload_n 1, 1) := by decide +kernel
theorem dL_bound_4 : decode cL_bound 4 = .ok (.invokevirtual 57, 3) := by decide +kernel
theorem dL_bound_7 : decode cL_bound 7 = .ok (.i2l, 1) := by decide +kernel
theorem dL_bound_8 : decode cL_bound 8 = .ok (.lastore, 1) := by decide +kernel
theorem dL_bound_9 : decode cL_bound 9 = .ok (.goto 6, 3) := by decide +kernel
theorem dL_bound_12 : decode cL_bound 12 = .ok (.astore_n 3, 1) := by decide +kernel
theorem dL_bound_13 : decode cL_bound 13 = .ok (.iconst 1, 1) := by decide +kernel
theorem dL_bound_14 : decode cL_bound 14 = .ok (.ireturn, 1) := by decide +kernel
theorem dL_bound_15 : decode cL_bound 15 = .ok (.iconst 0, 1) := by decide +kernel
theorem dL_bound_16 : decode cL_bound 16 = .ok (.ireturn, 1) := by decide +kernel
theorem dL_worst_0 : decode cL_worst 0 = .ok (.aload 4, 2) := by decide +kernel
theorem dL_worst_2 : decode cL_worst 2 = .ok (.iconst 0, 1) := by decide +kernel
theorem dL_worst_3 : decode cL_worst 3 = .ok (.aload_n 0, 1) := by decide +kernel
theorem dL_worst_4 : decode cL_worst 4 = .ok (.iload_n 1, 1) := by decide +kernel
theorem dL_worst_5 : decode cL_worst 5 = .ok (.iload_n 2, 1) := by decide +kernel
theorem dL_worst_6 : decode cL_worst 6 = .ok (.iload_n 3, 1) := by decide +kernel
theorem dL_worst_7 : decode cL_worst 7 = .ok (.invokevirtual 60, 3) := by decide +kernel
theorem dL_worst_10 : decode cL_worst 10 = .ok (.i2l, 1) := by decide +kernel
theorem dL_worst_11 : decode cL_worst 11 = .ok (.lastore, 1) := by decide +kernel
theorem dL_worst_12 : decode cL_worst 12 = .ok (.goto 7, 3) := by decide +kernel
theorem dL_worst_15 : decode cL_worst 15 = .ok (.astore 5, 2) := by decide +kernel
theorem dL_worst_17 : decode cL_worst 17 = .ok (.iconst 1, 1) := by decide +kernel
theorem dL_worst_18 : decode cL_worst 18 = .ok (.ireturn, 1) := by decide +kernel
theorem dL_worst_19 : decode cL_worst 19 = .ok (.iconst 0, 1) := by decide +kernel
theorem dL_worst_20 : decode cL_worst 20 = .ok (.ireturn, 1) := by decide +kernel
theorem dL_bad_0 : decode cL_bad 0 = .ok (.aload 4, 2) := by decide +kernel
theorem dL_bad_2 : decode cL_bad 2 = .ok (.iconst 0, 1) := by decide +kernel
theorem dL_bad_3 : decode cL_bad 3 = .ok (.aload_n 0, 1) := by decide +kernel
theorem dL_bad_4 : decode cL_bad 4 = .ok (.iload_n 1, 1) := by decide +kernel
theorem dL_bad_5 : decode cL_bad 5 = .ok (.iload_n 2, 1) := by decide +kernel
theorem dL_bad_6 : decode cL_bad 6 = .ok (.iload_n 3, 1) := by decide +kernel
theorem dL_bad_7 : decode cL_bad 7 = .ok (.invokevirtual 63, 3) := by decide +kernel
theorem dL_bad_10 : decode cL_bad 10 = .ok (.i2l, 1) := by decide +kernel
theorem dL_bad_11 : decode cL_bad 11 = .ok (.lastore, 1) := by decide +kernel
theorem dL_bad_12 : decode cL_bad 12 = .ok (.goto 7, 3) := by decide +kernel
theorem dL_bad_15 : decode cL_bad 15 = .ok (.astore 5, 2) := by decide +kernel
theorem dL_bad_17 : decode cL_bad 17 = .ok (.iconst 1, 1) := by decide +kernel
theorem dL_bad_18 : decode cL_bad 18 = .ok (.ireturn, 1) := by decide +kernel
theorem dL_bad_19 : decode cL_bad 19 = .ok (.iconst 0, 1) := by decide +kernel
theorem dL_bad_20 : decode cL_bad 20 = .ok (.ireturn, 1) := by decide +kernel
theorem dL_was_0 : decode cL_was 0 = .ok (.aload 4, 2) := by decide +kernel
theorem dL_was_2 : decode cL_was 2 = .ok (.iconst 0, 1) := by decide +kernel
theorem dL_was_3 : decode cL_was 3 = .ok (.aload_n 0, 1) := by decide +kernel
theorem dL_was_4 : decode cL_was 4 = .ok (.iload_n 1, 1) := by decide +kernel
theorem dL_was_5 : decode cL_was 5 = .ok (.iload_n 2, 1) := by decide +kernel
theorem dL_was_6 : decode cL_was 6 = .ok (.iload_n 3, 1) := by decide +kernel
theorem dL_was_7 : decode cL_was 7 = .ok (.invokevirtual 66, 3) := by decide +kernel
theorem dL_was_10 : decode cL_was 10 = .ok (.i2l, 1) := by decide +kernel
theorem dL_was_11 : decode cL_was 11 = .ok (.lastore, 1) := by decide +kernel
theorem dL_was_12 : decode cL_was 12 = .ok (.goto 11, 3) := by decide +kernel
theorem dL_was_15 : decode cL_was 15 = .ok (.astore 5, 2) := by decide +kernel
theorem dL_was_17 : decode cL_was 17 = .ok (.iconst 1, 1) := by decide +kernel
theorem dL_was_18 : decode cL_was 18 = .ok (.ireturn, 1) := by decide +kernel
theorem dL_was_19 : decode cL_was 19 = .ok (.astore 5, 2) := by decide +kernel
theorem dL_was_21 : decode cL_was 21 = .ok (.iconst 2, 1) := by decide +kernel
theorem dL_was_22 : decode cL_was 22 = .ok (.ireturn, 1) := by decide +kernel
theorem dL_was_23 : decode cL_was 23 = .ok (.iconst 0, 1) := by decide +kernel
theorem dL_was_24 : decode cL_was 24 = .ok (.ireturn, 1) := by decide +kernel
theorem dL_asked_0 : decode cL_asked 0 = .ok (.aload 5, 2) := by decide +kernel
theorem dL_asked_2 : decode cL_asked 2 = .ok (.iconst 0, 1) := by decide +kernel
theorem dL_asked_3 : decode cL_asked 3 = .ok (.aload_n 0, 1) := by decide +kernel
theorem dL_asked_4 : decode cL_asked 4 = .ok (.iload_n 1, 1) := by decide +kernel
theorem dL_asked_5 : decode cL_asked 5 = .ok (.iload_n 2, 1) := by decide +kernel
theorem dL_asked_6 : decode cL_asked 6 = .ok (.iload_n 3, 1) := by decide +kernel
theorem dL_asked_7 : decode cL_asked 7 = .ok (.iload 4, 2) := by decide +kernel
theorem dL_asked_9 : decode cL_asked 9 = .ok (.invokevirtual 69, 3) := by decide +kernel
theorem dL_asked_12 : decode cL_asked 12 = .ok (.i2l, 1) := by decide +kernel
theorem dL_asked_13 : decode cL_asked 13 = .ok (.lastore, 1) := by decide +kernel
theorem dL_asked_14 : decode cL_asked 14 = .ok (.goto 11, 3) := by decide +kernel
theorem dL_asked_17 : decode cL_asked 17 = .ok (.astore 6, 2) := by decide +kernel
theorem dL_asked_19 : decode cL_asked 19 = .ok (.iconst 1, 1) := by decide +kernel
theorem dL_asked_20 : decode cL_asked 20 = .ok (.ireturn, 1) := by decide +kernel
theorem dL_asked_21 : decode cL_asked 21 = .ok (.astore 6, 2) := by decide +kernel
theorem dL_asked_23 : decode cL_asked 23 = .ok (.iconst 2, 1) := by decide +kernel
theorem dL_asked_24 : decode cL_asked 24 = .ok (.ireturn, 1) := by decide +kernel
theorem dL_asked_25 : decode cL_asked 25 = .ok (.iconst 0, 1) := by decide +kernel
theorem dL_asked_26 : decode cL_asked 26 = .ok (.ireturn, 1) := by decide +kernel
theorem dL_since_0 : decode cL_since 0 = .ok (.aload 4, 2) := by decide +kernel
theorem dL_since_2 : decode cL_since 2 = .ok (.iconst 0, 1) := by decide +kernel
theorem dL_since_3 : decode cL_since 3 = .ok (.aload_n 0, 1) := by decide +kernel
theorem dL_since_4 : decode cL_since 4 = .ok (.iload_n 1, 1) := by decide +kernel
theorem dL_since_5 : decode cL_since 5 = .ok (.iload_n 2, 1) := by decide +kernel
theorem dL_since_6 : decode cL_since 6 = .ok (.iload_n 3, 1) := by decide +kernel
theorem dL_since_7 : decode cL_since 7 = .ok (.invokevirtual 72, 3) := by decide +kernel
theorem dL_since_10 : decode cL_since 10 = .ok (.i2l, 1) := by decide +kernel
theorem dL_since_11 : decode cL_since 11 = .ok (.lastore, 1) := by decide +kernel
theorem dL_since_12 : decode cL_since 12 = .ok (.goto 11, 3) := by decide +kernel
theorem dL_since_15 : decode cL_since 15 = .ok (.astore 5, 2) := by decide +kernel
theorem dL_since_17 : decode cL_since 17 = .ok (.iconst 1, 1) := by decide +kernel
theorem dL_since_18 : decode cL_since 18 = .ok (.ireturn, 1) := by decide +kernel
theorem dL_since_19 : decode cL_since 19 = .ok (.astore 5, 2) := by decide +kernel
theorem dL_since_21 : decode cL_since 21 = .ok (.iconst 2, 1) := by decide +kernel
theorem dL_since_22 : decode cL_since 22 = .ok (.ireturn, 1) := by decide +kernel
theorem dL_since_23 : decode cL_since 23 = .ok (.iconst 0, 1) := by decide +kernel
theorem dL_since_24 : decode cL_since 24 = .ok (.ireturn, 1) := by decide +kernel
theorem dL_room_0 : decode cL_room 0 = .ok (.aload_n 3, 1) := by decide +kernel
theorem dL_room_1 : decode cL_room 1 = .ok (.iconst 0, 1) := by decide +kernel
theorem dL_room_2 : decode cL_room 2 = .ok (.aload_n 0, 1) := by decide +kernel
theorem dL_room_3 : decode cL_room 3 = .ok (.iload_n 1, 1) := by decide +kernel
theorem dL_room_4 : decode cL_room 4 = .ok (.iload_n 2, 1) := by decide +kernel
theorem dL_room_5 : decode cL_room 5 = .ok (.invokevirtual 75, 3) := by decide +kernel
theorem dL_room_8 : decode cL_room 8 = .ok (.i2l, 1) := by decide +kernel
theorem dL_room_9 : decode cL_room 9 = .ok (.lastore, 1) := by decide +kernel
theorem dL_room_10 : decode cL_room 10 = .ok (.goto 11, 3) := by decide +kernel
theorem dL_room_13 : decode cL_room 13 = .ok (.astore 4, 2) := by decide +kernel
theorem dL_room_15 : decode cL_room 15 = .ok (.iconst 1, 1) := by decide +kernel
theorem dL_room_16 : decode cL_room 16 = .ok (.ireturn, 1) := by decide +kernel
theorem dL_room_17 : decode cL_room 17 = .ok (.astore 4, 2) := by decide +kernel
theorem dL_room_19 : decode cL_room 19 = .ok (.iconst 2, 1) := by decide +kernel
theorem dL_room_20 : decode cL_room 20 = .ok (.ireturn, 1) := by decide +kernel
theorem dL_room_21 : decode cL_room 21 = .ok (.iconst 0, 1) := by decide +kernel
theorem dL_room_22 : decode cL_room 22 = .ok (.ireturn, 1) := by decide +kernel
theorem dL_joins_0 : decode cL_joins 0 = .ok (.aload 4, 2) := by decide +kernel
theorem dL_joins_2 : decode cL_joins 2 = .ok (.iconst 0, 1) := by decide +kernel
theorem dL_joins_3 : decode cL_joins 3 = .ok (.aload_n 0, 1) := by decide +kernel
theorem dL_joins_4 : decode cL_joins 4 = .ok (.iload_n 1, 1) := by decide +kernel
theorem dL_joins_5 : decode cL_joins 5 = .ok (.iload_n 2, 1) := by decide +kernel
theorem dL_joins_6 : decode cL_joins 6 = .ok (.iload_n 3, 1) := by decide +kernel
theorem dL_joins_7 : decode cL_joins 7 = .ok (.invokevirtual 78, 3) := by decide +kernel
theorem dL_joins_10 : decode cL_joins 10 = .ok (.i2l, 1) := by decide +kernel
theorem dL_joins_11 : decode cL_joins 11 = .ok (.lastore, 1) := by decide +kernel
theorem dL_joins_12 : decode cL_joins 12 = .ok (.goto 11, 3) := by decide +kernel
theorem dL_joins_15 : decode cL_joins 15 = .ok (.astore 5, 2) := by decide +kernel
theorem dL_joins_17 : decode cL_joins 17 = .ok (.iconst 1, 1) := by decide +kernel
theorem dL_joins_18 : decode cL_joins 18 = .ok (.ireturn, 1) := by decide +kernel
theorem dL_joins_19 : decode cL_joins 19 = .ok (.astore 5, 2) := by decide +kernel
theorem dL_joins_21 : decode cL_joins 21 = .ok (.iconst 2, 1) := by decide +kernel
theorem dL_joins_22 : decode cL_joins 22 = .ok (.ireturn, 1) := by decide +kernel
theorem dL_joins_23 : decode cL_joins 23 = .ok (.iconst 0, 1) := by decide +kernel
theorem dL_joins_24 : decode cL_joins 24 = .ok (.ireturn, 1) := by decide +kernel
theorem dL_runs_0 : decode cL_runs 0 = .ok (.aload_n 3, 1) := by decide +kernel
theorem dL_runs_1 : decode cL_runs 1 = .ok (.iconst 0, 1) := by decide +kernel
theorem dL_runs_2 : decode cL_runs 2 = .ok (.aload_n 0, 1) := by decide +kernel
theorem dL_runs_3 : decode cL_runs 3 = .ok (.iload_n 1, 1) := by decide +kernel
theorem dL_runs_4 : decode cL_runs 4 = .ok (.iload_n 2, 1) := by decide +kernel
theorem dL_runs_5 : decode cL_runs 5 = .ok (.invokevirtual 81, 3) := by decide +kernel
theorem dL_runs_8 : decode cL_runs 8 = .ok (.i2l, 1) := by decide +kernel
theorem dL_runs_9 : decode cL_runs 9 = .ok (.lastore, 1) := by decide +kernel
theorem dL_runs_10 : decode cL_runs 10 = .ok (.goto 7, 3) := by decide +kernel
theorem dL_runs_13 : decode cL_runs 13 = .ok (.astore 4, 2) := by decide +kernel
theorem dL_runs_15 : decode cL_runs 15 = .ok (.iconst 1, 1) := by decide +kernel
theorem dL_runs_16 : decode cL_runs 16 = .ok (.ireturn, 1) := by decide +kernel
theorem dL_runs_17 : decode cL_runs 17 = .ok (.iconst 0, 1) := by decide +kernel
theorem dL_runs_18 : decode cL_runs 18 = .ok (.ireturn, 1) := by decide +kernel
theorem dL_steals_0 : decode cL_steals 0 = .ok (.aload 5, 2) := by decide +kernel
theorem dL_steals_2 : decode cL_steals 2 = .ok (.iconst 0, 1) := by decide +kernel
theorem dL_steals_3 : decode cL_steals 3 = .ok (.aload_n 0, 1) := by decide +kernel
theorem dL_steals_4 : decode cL_steals 4 = .ok (.iload_n 1, 1) := by decide +kernel
theorem dL_steals_5 : decode cL_steals 5 = .ok (.iload_n 2, 1) := by decide +kernel
theorem dL_steals_6 : decode cL_steals 6 = .ok (.iload_n 3, 1) := by decide +kernel
theorem dL_steals_7 : decode cL_steals 7 = .ok (.iload 4, 2) := by decide +kernel
theorem dL_steals_9 : decode cL_steals 9 = .ok (.invokevirtual 84, 3) := by decide +kernel
theorem dL_steals_12 : decode cL_steals 12 = .ok (.i2l, 1) := by decide +kernel
theorem dL_steals_13 : decode cL_steals 13 = .ok (.lastore, 1) := by decide +kernel
theorem dL_steals_14 : decode cL_steals 14 = .ok (.goto 15, 3) := by decide +kernel
theorem dL_steals_17 : decode cL_steals 17 = .ok (.astore 6, 2) := by decide +kernel
theorem dL_steals_19 : decode cL_steals 19 = .ok (.iconst 1, 1) := by decide +kernel
theorem dL_steals_20 : decode cL_steals 20 = .ok (.ireturn, 1) := by decide +kernel
theorem dL_steals_21 : decode cL_steals 21 = .ok (.astore 6, 2) := by decide +kernel
theorem dL_steals_23 : decode cL_steals 23 = .ok (.iconst 2, 1) := by decide +kernel
theorem dL_steals_24 : decode cL_steals 24 = .ok (.ireturn, 1) := by decide +kernel
theorem dL_steals_25 : decode cL_steals 25 = .ok (.astore 6, 2) := by decide +kernel
theorem dL_steals_27 : decode cL_steals 27 = .ok (.iconst 3, 1) := by decide +kernel
theorem dL_steals_28 : decode cL_steals 28 = .ok (.ireturn, 1) := by decide +kernel
theorem dL_steals_29 : decode cL_steals 29 = .ok (.iconst 0, 1) := by decide +kernel
theorem dL_steals_30 : decode cL_steals 30 = .ok (.ireturn, 1) := by decide +kernel
theorem dL_reached_0 : decode cL_reached 0 = .ok (.aload_n 2, 1) := by decide +kernel
theorem dL_reached_1 : decode cL_reached 1 = .ok (.iconst 0, 1) := by decide +kernel
theorem dL_reached_2 : decode cL_reached 2 = .ok (.aload_n 0, 1) := by decide +kernel
theorem dL_reached_3 : decode cL_reached 3 = .ok (.iload_n 1, 1) := by decide +kernel
theorem dL_reached_4 : decode cL_reached 4 = .ok (.invokevirtual 89, 3) := by decide +kernel
theorem dL_reached_7 : decode cL_reached 7 = .ok (.i2l, 1) := by decide +kernel
theorem dL_reached_8 : decode cL_reached 8 = .ok (.lastore, 1) := by decide +kernel
theorem dL_reached_9 : decode cL_reached 9 = .ok (.goto 6, 3) := by decide +kernel
theorem dL_reached_12 : decode cL_reached 12 = .ok (.astore_n 3, 1) := by decide +kernel
theorem dL_reached_13 : decode cL_reached 13 = .ok (.iconst 1, 1) := by decide +kernel
theorem dL_reached_14 : decode cL_reached 14 = .ok (.ireturn, 1) := by decide +kernel
theorem dL_reached_15 : decode cL_reached 15 = .ok (.iconst 0, 1) := by decide +kernel
theorem dL_reached_16 : decode cL_reached 16 = .ok (.ireturn, 1) := by decide +kernel
theorem dL_row_0 : decode cL_row 0 = .ok (.aload_n 2, 1) := by decide +kernel
theorem dL_row_1 : decode cL_row 1 = .ok (.iconst 0, 1) := by decide +kernel
theorem dL_row_2 : decode cL_row 2 = .ok (.aload_n 0, 1) := by decide +kernel
theorem dL_row_3 : decode cL_row 3 = .ok (.iload_n 1, 1) := by decide +kernel
theorem dL_row_4 : decode cL_row 4 = .ok (.invokevirtual 92, 3) := by decide +kernel
theorem dL_row_7 : decode cL_row 7 = .ok (.i2l, 1) := by decide +kernel
theorem dL_row_8 : decode cL_row 8 = .ok (.lastore, 1) := by decide +kernel
theorem dL_row_9 : decode cL_row 9 = .ok (.goto 6, 3) := by decide +kernel
theorem dL_row_12 : decode cL_row 12 = .ok (.astore_n 3, 1) := by decide +kernel
theorem dL_row_13 : decode cL_row 13 = .ok (.iconst 1, 1) := by decide +kernel
theorem dL_row_14 : decode cL_row 14 = .ok (.ireturn, 1) := by decide +kernel
theorem dL_row_15 : decode cL_row 15 = .ok (.iconst 0, 1) := by decide +kernel
theorem dL_row_16 : decode cL_row 16 = .ok (.ireturn, 1) := by decide +kernel
theorem dL_rowCall_0 : decode cL_rowCall 0 = .ok (.aload_n 3, 1) := by decide +kernel
theorem dL_rowCall_1 : decode cL_rowCall 1 = .ok (.iconst 0, 1) := by decide +kernel
theorem dL_rowCall_2 : decode cL_rowCall 2 = .ok (.aload_n 0, 1) := by decide +kernel
theorem dL_rowCall_3 : decode cL_rowCall 3 = .ok (.iload_n 1, 1) := by decide +kernel
theorem dL_rowCall_4 : decode cL_rowCall 4 = .ok (.iload_n 2, 1) := by decide +kernel
theorem dL_rowCall_5 : decode cL_rowCall 5 = .ok (.invokevirtual 95, 3) := by decide +kernel
theorem dL_rowCall_8 : decode cL_rowCall 8 = .ok (.i2l, 1) := by decide +kernel
theorem dL_rowCall_9 : decode cL_rowCall 9 = .ok (.lastore, 1) := by decide +kernel
theorem dL_rowCall_10 : decode cL_rowCall 10 = .ok (.goto 7, 3) := by decide +kernel
theorem dL_rowCall_13 : decode cL_rowCall 13 = .ok (.astore 4, 2) := by decide +kernel
theorem dL_rowCall_15 : decode cL_rowCall 15 = .ok (.iconst 1, 1) := by decide +kernel
theorem dL_rowCall_16 : decode cL_rowCall 16 = .ok (.ireturn, 1) := by decide +kernel
theorem dL_rowCall_17 : decode cL_rowCall 17 = .ok (.iconst 0, 1) := by decide +kernel
theorem dL_rowCall_18 : decode cL_rowCall 18 = .ok (.ireturn, 1) := by decide +kernel
theorem dL_split_0 : decode cL_split 0 = .ok (.aload 4, 2) := by decide +kernel
theorem dL_split_2 : decode cL_split 2 = .ok (.iconst 0, 1) := by decide +kernel
theorem dL_split_3 : decode cL_split 3 = .ok (.aload_n 0, 1) := by decide +kernel
theorem dL_split_4 : decode cL_split 4 = .ok (.iload_n 1, 1) := by decide +kernel
theorem dL_split_5 : decode cL_split 5 = .ok (.iload_n 2, 1) := by decide +kernel
theorem dL_split_6 : decode cL_split 6 = .ok (.iload_n 3, 1) := by decide +kernel
theorem dL_split_7 : decode cL_split 7 = .ok (.invokevirtual 98, 3) := by decide +kernel
theorem dL_split_10 : decode cL_split 10 = .ok (.i2l, 1) := by decide +kernel
theorem dL_split_11 : decode cL_split 11 = .ok (.lastore, 1) := by decide +kernel
theorem dL_split_12 : decode cL_split 12 = .ok (.goto 11, 3) := by decide +kernel
theorem dL_split_15 : decode cL_split 15 = .ok (.astore 5, 2) := by decide +kernel
theorem dL_split_17 : decode cL_split 17 = .ok (.iconst 1, 1) := by decide +kernel
theorem dL_split_18 : decode cL_split 18 = .ok (.ireturn, 1) := by decide +kernel
theorem dL_split_19 : decode cL_split 19 = .ok (.astore 5, 2) := by decide +kernel
theorem dL_split_21 : decode cL_split 21 = .ok (.iconst 2, 1) := by decide +kernel
theorem dL_split_22 : decode cL_split 22 = .ok (.ireturn, 1) := by decide +kernel
theorem dL_split_23 : decode cL_split 23 = .ok (.iconst 0, 1) := by decide +kernel
theorem dL_split_24 : decode cL_split 24 = .ok (.ireturn, 1) := by decide +kernel
theorem dL_gap_0 : decode cL_gap 0 = .ok (.aload_n 3, 1) := by decide +kernel
theorem dL_gap_1 : decode cL_gap 1 = .ok (.iconst 0, 1) := by decide +kernel
theorem dL_gap_2 : decode cL_gap 2 = .ok (.aload_n 0, 1) := by decide +kernel
theorem dL_gap_3 : decode cL_gap 3 = .ok (.iload_n 1, 1) := by decide +kernel
theorem dL_gap_4 : decode cL_gap 4 = .ok (.iload_n 2, 1) := by decide +kernel
theorem dL_gap_5 : decode cL_gap 5 = .ok (.invokevirtual 101, 3) := by decide +kernel
theorem dL_gap_8 : decode cL_gap 8 = .ok (.i2l, 1) := by decide +kernel
theorem dL_gap_9 : decode cL_gap 9 = .ok (.lastore, 1) := by decide +kernel
theorem dL_gap_10 : decode cL_gap 10 = .ok (.goto 11, 3) := by decide +kernel
theorem dL_gap_13 : decode cL_gap 13 = .ok (.astore 4, 2) := by decide +kernel
theorem dL_gap_15 : decode cL_gap 15 = .ok (.iconst 1, 1) := by decide +kernel
theorem dL_gap_16 : decode cL_gap 16 = .ok (.ireturn, 1) := by decide +kernel
theorem dL_gap_17 : decode cL_gap 17 = .ok (.astore 4, 2) := by decide +kernel
theorem dL_gap_19 : decode cL_gap 19 = .ok (.iconst 2, 1) := by decide +kernel
theorem dL_gap_20 : decode cL_gap 20 = .ok (.ireturn, 1) := by decide +kernel
theorem dL_gap_21 : decode cL_gap 21 = .ok (.iconst 0, 1) := by decide +kernel
theorem dL_gap_22 : decode cL_gap 22 = .ok (.ireturn, 1) := by decide +kernel
theorem dL_seeds_0 : decode cL_seeds 0 = .ok (.aload 6, 2) := by decide +kernel
theorem dL_seeds_2 : decode cL_seeds 2 = .ok (.iconst 0, 1) := by decide +kernel
theorem dL_seeds_3 : decode cL_seeds 3 = .ok (.aload_n 0, 1) := by decide +kernel
theorem dL_seeds_4 : decode cL_seeds 4 = .ok (.iload_n 1, 1) := by decide +kernel
theorem dL_seeds_5 : decode cL_seeds 5 = .ok (.iload_n 2, 1) := by decide +kernel
theorem dL_seeds_6 : decode cL_seeds 6 = .ok (.iload_n 3, 1) := by decide +kernel
theorem dL_seeds_7 : decode cL_seeds 7 = .ok (.iload 4, 2) := by decide +kernel
theorem dL_seeds_9 : decode cL_seeds 9 = .ok (.iload 5, 2) := by decide +kernel
theorem dL_seeds_11 : decode cL_seeds 11 = .ok (.invokevirtual 104, 3) := by decide +kernel
theorem dL_seeds_14 : decode cL_seeds 14 = .ok (.i2l, 1) := by decide +kernel
theorem dL_seeds_15 : decode cL_seeds 15 = .ok (.lastore, 1) := by decide +kernel
theorem dL_seeds_16 : decode cL_seeds 16 = .ok (.goto 15, 3) := by decide +kernel
theorem dL_seeds_19 : decode cL_seeds 19 = .ok (.astore 7, 2) := by decide +kernel
theorem dL_seeds_21 : decode cL_seeds 21 = .ok (.iconst 1, 1) := by decide +kernel
theorem dL_seeds_22 : decode cL_seeds 22 = .ok (.ireturn, 1) := by decide +kernel
theorem dL_seeds_23 : decode cL_seeds 23 = .ok (.astore 7, 2) := by decide +kernel
theorem dL_seeds_25 : decode cL_seeds 25 = .ok (.iconst 2, 1) := by decide +kernel
theorem dL_seeds_26 : decode cL_seeds 26 = .ok (.ireturn, 1) := by decide +kernel
theorem dL_seeds_27 : decode cL_seeds 27 = .ok (.astore 7, 2) := by decide +kernel
theorem dL_seeds_29 : decode cL_seeds 29 = .ok (.iconst 3, 1) := by decide +kernel
theorem dL_seeds_30 : decode cL_seeds 30 = .ok (.ireturn, 1) := by decide +kernel
theorem dL_seeds_31 : decode cL_seeds 31 = .ok (.iconst 0, 1) := by decide +kernel
theorem dL_seeds_32 : decode cL_seeds 32 = .ok (.ireturn, 1) := by decide +kernel

def hh_shape : List (Nat × Nat × Nat × Nat) := [(0, 9, 12, 13)]
def D_L_shape (N : Nat) (g : gp) (a0 : Nat) (x1 : Int32) (a2 : Nat) (δ : dp) : Option (Int32 × dp) := (D_X11_shape N g a0 x1 δ).bind fun r => match r.1 with
  | .inl v => if q_N g a2 ≤ 0 then none else some (0, s_J r.2 a2 0 v.toInt64)
  | .inr n => if n = 0 then none else if n = 1 then none else some (1, r.2)
set_option maxHeartbeats 4000000 in
theorem c_L_shape {l : Launch} {D : va_G} {cy : Nat → ClassId} {N d : Nat} {g : gp} (wt : WT g) (hl : l.stackTraces = false) (hd : 12 ≤ d) {a0 : Nat} {x1 : Int32} {a2 : Nat} {δ : dp} (k0 : q_K g a0 = 11) (k2 : q_K g a2 = 14) (r : Int32 × dp) (hr : D_L_shape N g a0 x1 a2 δ = some r) {P : Option Value → hp → Prop} {X : String → hp → Prop} (hP : P (some (.int r.1)) (g, r.2)) : CalH hh_shape l D cy m_L_shape d 1 6 [.ref a0, .int x1, .ref a2] (g, δ) P X := by
  unfold D_L_shape at hr
  obtain ⟨⟨qa, qd⟩, hq, h2⟩ := Option.bind_eq_some_iff.mp hr
  refine CalH.of (by decide +kernel) (Nat.le_of_ble_eq_true rfl) hl ?_
  refine h_aload_n 2 2 (μ := m_L_shape) (pc := 0) dL_shape_0 rfl rfl ?_
  refine h_iconst (v := 0) (μ := m_L_shape) (pc := 1) dL_shape_1 (by decide) ?_
  refine h_aload_n 0 0 (μ := m_L_shape) (pc := 2) dL_shape_2 rfl rfl ?_
  refine h_iload_n 1 1 (μ := m_L_shape) (pc := 3) dL_shape_3 rfl rfl ?_
  refine h_callV (As := [.int x1]) (rest := [.int 0, .ref a2]) (rc' := 0) (rs' := 0) (μ := m_L_shape) (pc := 4) dL_shape_4 cv_L_7 rfl k0 (by decide) rfl (Nat.le_of_ble_eq_true rfl) (d' := d - 1) (by omega) (by decide) (by decide) (c_X11_shape (N := N) wt hl (d := d - 1) (by omega) k0 (qa, qd) hq _ _ ?_)
  cases qa with
  | inl v =>
    dsimp only at h2
    by_cases hz : q_N g a2 ≤ 0
    · rw [if_pos hz] at h2; cases h2
    · rw [if_neg hz] at h2
      cases h2
      refine h_i2l (μ := m_L_shape) (pc := 7) dL_shape_7 ?_
      refine h_last (μ := m_L_shape) (pc := 8) dL_shape_8 k2 (vp_n (by rintro (z | z); exact absurd z (by decide); exact hz z)) ?_
      refine h_goto 15 (μ := m_L_shape) (pc := 9) dL_shape_9 (by decide) ?_
      refine h_iconst (v := 0) (μ := m_L_shape) (pc := 15) dL_shape_15 (by decide) ?_
      exact h_iret (μ := m_L_shape) (pc := 16) dL_shape_16 rfl rfl hP
  | inr n =>
    dsimp only at h2
    by_cases n0 : n = 0
    · subst n0
      rw [if_pos rfl] at h2
      cases h2
    · rw [if_neg n0] at h2
      by_cases n1 : n = 1
      · subst n1
        rw [if_pos rfl] at h2
        cases h2
      · rw [if_neg n1] at h2
        have hn : exn 2 = exn n := by unfold exn; rw [if_neg n0, if_neg n1]; rfl
        cases h2
        refine emk_x 2 hn (ctc.mk' [] ⟨0, 9, 12, 13⟩ [] (exn 2) rfl ?_ (by decide) (by decide) lk_13 ca_2 (fun q => ?_))
        · intro z hz; cases hz
        · refine h_astore_n [(3, .ref q), (0, .ref a0), (1, .int x1), (2, .ref a2)] (μ := m_L_shape) (pc := 12) dL_shape_12 rfl (by decide) rfl ?_
          refine h_iconst (v := 1) (μ := m_L_shape) (pc := 13) dL_shape_13 (by decide) ?_
          exact h_iret (μ := m_L_shape) (pc := 14) dL_shape_14 rfl rfl hP
theorem ch_116 : clH hh_shape RL 116 m_L_shape 3 := ⟨T_3 46 rfl rfl, T_3 47 rfl rfl, T_1 0 rfl rfl, T_3 48 rfl rfl, ⟨nh_RL.1, nh_RL.2, ar_L_shape⟩, by decide⟩
def hh_thief : List (Nat × Nat × Nat × Nat) := [(0, 9, 12, 13)]
def D_L_thief (N : Nat) (g : gp) (a0 : Nat) (x1 : Int32) (a2 : Nat) (δ : dp) : Option (Int32 × dp) := (D_X11_thief N g a0 x1 δ).bind fun r => match r.1 with
  | .inl v => if q_N g a2 ≤ 0 then none else some (0, s_J r.2 a2 0 v.toInt64)
  | .inr n => if n = 0 then none else if n = 1 then none else some (1, r.2)
set_option maxHeartbeats 4000000 in
theorem c_L_thief {l : Launch} {D : va_G} {cy : Nat → ClassId} {N d : Nat} {g : gp} (wt : WT g) (hl : l.stackTraces = false) (hd : 73 ≤ d) {a0 : Nat} {x1 : Int32} {a2 : Nat} {δ : dp} (k0 : q_K g a0 = 11) (k2 : q_K g a2 = 14) (r : Int32 × dp) (hr : D_L_thief N g a0 x1 a2 δ = some r) {P : Option Value → hp → Prop} {X : String → hp → Prop} (hP : P (some (.int r.1)) (g, r.2)) : CalH hh_thief l D cy m_L_thief d 1 6 [.ref a0, .int x1, .ref a2] (g, δ) P X := by
  unfold D_L_thief at hr
  obtain ⟨⟨qa, qd⟩, hq, h2⟩ := Option.bind_eq_some_iff.mp hr
  refine CalH.of (by decide +kernel) (Nat.le_of_ble_eq_true rfl) hl ?_
  refine h_aload_n 2 2 (μ := m_L_thief) (pc := 0) dL_thief_0 rfl rfl ?_
  refine h_iconst (v := 0) (μ := m_L_thief) (pc := 1) dL_thief_1 (by decide) ?_
  refine h_aload_n 0 0 (μ := m_L_thief) (pc := 2) dL_thief_2 rfl rfl ?_
  refine h_iload_n 1 1 (μ := m_L_thief) (pc := 3) dL_thief_3 rfl rfl ?_
  refine h_callV (As := [.int x1]) (rest := [.int 0, .ref a2]) (rc' := 0) (rs' := 0) (μ := m_L_thief) (pc := 4) dL_thief_4 cv_L_15 rfl k0 (by decide) rfl (Nat.le_of_ble_eq_true rfl) (d' := d - 1) (by omega) (by decide) (by decide) (c_X11_thief (N := N) wt hl (d := d - 1) (by omega) k0 (qa, qd) hq _ _ ?_)
  cases qa with
  | inl v =>
    dsimp only at h2
    by_cases hz : q_N g a2 ≤ 0
    · rw [if_pos hz] at h2; cases h2
    · rw [if_neg hz] at h2
      cases h2
      refine h_i2l (μ := m_L_thief) (pc := 7) dL_thief_7 ?_
      refine h_last (μ := m_L_thief) (pc := 8) dL_thief_8 k2 (vp_n (by rintro (z | z); exact absurd z (by decide); exact hz z)) ?_
      refine h_goto 15 (μ := m_L_thief) (pc := 9) dL_thief_9 (by decide) ?_
      refine h_iconst (v := 0) (μ := m_L_thief) (pc := 15) dL_thief_15 (by decide) ?_
      exact h_iret (μ := m_L_thief) (pc := 16) dL_thief_16 rfl rfl hP
  | inr n =>
    dsimp only at h2
    by_cases n0 : n = 0
    · subst n0
      rw [if_pos rfl] at h2
      cases h2
    · rw [if_neg n0] at h2
      by_cases n1 : n = 1
      · subst n1
        rw [if_pos rfl] at h2
        cases h2
      · rw [if_neg n1] at h2
        have hn : exn 2 = exn n := by unfold exn; rw [if_neg n0, if_neg n1]; rfl
        cases h2
        refine emk_x 2 hn (ctc.mk' [] ⟨0, 9, 12, 13⟩ [] (exn 2) rfl ?_ (by decide) (by decide) lk_13 ca_2 (fun q => ?_))
        · intro z hz; cases hz
        · refine h_astore_n [(3, .ref q), (0, .ref a0), (1, .int x1), (2, .ref a2)] (μ := m_L_thief) (pc := 12) dL_thief_12 rfl (by decide) rfl ?_
          refine h_iconst (v := 1) (μ := m_L_thief) (pc := 13) dL_thief_13 (by decide) ?_
          exact h_iret (μ := m_L_thief) (pc := 14) dL_thief_14 rfl rfl hP
theorem ch_122 : clH hh_thief RL 122 m_L_thief 3 := ⟨T_4 2 rfl rfl, T_4 3 rfl rfl, T_1 0 rfl rfl, T_4 4 rfl rfl, ⟨nh_RL.1, nh_RL.2, ar_L_thief⟩, by decide⟩
def hh_told : List (Nat × Nat × Nat × Nat) := [(0, 9, 12, 13)]
def D_L_told (N : Nat) (g : gp) (a0 : Nat) (x1 : Int32) (a2 : Nat) (δ : dp) : Option (Int32 × dp) := (D_X11_told N g a0 x1 δ).bind fun r => match r.1 with
  | .inl v => if q_N g a2 ≤ 0 then none else some (0, s_J r.2 a2 0 v.toInt64)
  | .inr n => if n = 0 then none else if n = 1 then none else some (1, r.2)
set_option maxHeartbeats 4000000 in
theorem c_L_told {l : Launch} {D : va_G} {cy : Nat → ClassId} {N d : Nat} {g : gp} (wt : WT g) (hl : l.stackTraces = false) (hd : 12 ≤ d) {a0 : Nat} {x1 : Int32} {a2 : Nat} {δ : dp} (k0 : q_K g a0 = 11) (k2 : q_K g a2 = 14) (r : Int32 × dp) (hr : D_L_told N g a0 x1 a2 δ = some r) {P : Option Value → hp → Prop} {X : String → hp → Prop} (hP : P (some (.int r.1)) (g, r.2)) : CalH hh_told l D cy m_L_told d 1 6 [.ref a0, .int x1, .ref a2] (g, δ) P X := by
  unfold D_L_told at hr
  obtain ⟨⟨qa, qd⟩, hq, h2⟩ := Option.bind_eq_some_iff.mp hr
  refine CalH.of (by decide +kernel) (Nat.le_of_ble_eq_true rfl) hl ?_
  refine h_aload_n 2 2 (μ := m_L_told) (pc := 0) dL_told_0 rfl rfl ?_
  refine h_iconst (v := 0) (μ := m_L_told) (pc := 1) dL_told_1 (by decide) ?_
  refine h_aload_n 0 0 (μ := m_L_told) (pc := 2) dL_told_2 rfl rfl ?_
  refine h_iload_n 1 1 (μ := m_L_told) (pc := 3) dL_told_3 rfl rfl ?_
  refine h_callV (As := [.int x1]) (rest := [.int 0, .ref a2]) (rc' := 0) (rs' := 0) (μ := m_L_told) (pc := 4) dL_told_4 cv_L_18 rfl k0 (by decide) rfl (Nat.le_of_ble_eq_true rfl) (d' := d - 1) (by omega) (by decide) (by decide) (c_X11_told (N := N) wt hl (d := d - 1) (by omega) k0 (qa, qd) hq _ _ ?_)
  cases qa with
  | inl v =>
    dsimp only at h2
    by_cases hz : q_N g a2 ≤ 0
    · rw [if_pos hz] at h2; cases h2
    · rw [if_neg hz] at h2
      cases h2
      refine h_i2l (μ := m_L_told) (pc := 7) dL_told_7 ?_
      refine h_last (μ := m_L_told) (pc := 8) dL_told_8 k2 (vp_n (by rintro (z | z); exact absurd z (by decide); exact hz z)) ?_
      refine h_goto 15 (μ := m_L_told) (pc := 9) dL_told_9 (by decide) ?_
      refine h_iconst (v := 0) (μ := m_L_told) (pc := 15) dL_told_15 (by decide) ?_
      exact h_iret (μ := m_L_told) (pc := 16) dL_told_16 rfl rfl hP
  | inr n =>
    dsimp only at h2
    by_cases n0 : n = 0
    · subst n0
      rw [if_pos rfl] at h2
      cases h2
    · rw [if_neg n0] at h2
      by_cases n1 : n = 1
      · subst n1
        rw [if_pos rfl] at h2
        cases h2
      · rw [if_neg n1] at h2
        have hn : exn 2 = exn n := by unfold exn; rw [if_neg n0, if_neg n1]; rfl
        cases h2
        refine emk_x 2 hn (ctc.mk' [] ⟨0, 9, 12, 13⟩ [] (exn 2) rfl ?_ (by decide) (by decide) lk_13 ca_2 (fun q => ?_))
        · intro z hz; cases hz
        · refine h_astore_n [(3, .ref q), (0, .ref a0), (1, .int x1), (2, .ref a2)] (μ := m_L_told) (pc := 12) dL_told_12 rfl (by decide) rfl ?_
          refine h_iconst (v := 1) (μ := m_L_told) (pc := 13) dL_told_13 (by decide) ?_
          exact h_iret (μ := m_L_told) (pc := 14) dL_told_14 rfl rfl hP
theorem ch_130 : clH hh_told RL 130 m_L_told 3 := ⟨T_4 83 rfl rfl, T_4 84 rfl rfl, T_1 0 rfl rfl, T_4 85 rfl rfl, ⟨nh_RL.1, nh_RL.2, ar_L_told⟩, by decide⟩
def hh_put : List (Nat × Nat × Nat × Nat) := [(0, 10, 13, 25), (0, 10, 17, 13)]
def D_L_put (N : Nat) (g : gp) (a0 : Nat) (x1 : Int32) (x2 : Int32) (a3 : Nat) (δ : dp) : Option (Int32 × dp) := (D_X11_put N g a0 x1 x2 δ).bind fun r => match r.1 with
  | .inl v => if q_N g a3 ≤ 0 then none else some (0, s_J r.2 a3 0 v.toInt64)
  | .inr n => if n = 0 then some (1, r.2) else if n = 1 then none else some (2, r.2)
set_option maxHeartbeats 4000000 in
theorem c_L_put {l : Launch} {D : va_G} {cy : Nat → ClassId} {N d : Nat} {g : gp} (wt : WT g) (hl : l.stackTraces = false) (hd : 13 ≤ d) {a0 : Nat} {x1 : Int32} {x2 : Int32} {a3 : Nat} {δ : dp} (k0 : q_K g a0 = 11) (k3 : q_K g a3 = 14) (r : Int32 × dp) (hr : D_L_put N g a0 x1 x2 a3 δ = some r) {P : Option Value → hp → Prop} {X : String → hp → Prop} (hP : P (some (.int r.1)) (g, r.2)) : CalH hh_put l D cy m_L_put d 2 12 [.ref a0, .int x1, .int x2, .ref a3] (g, δ) P X := by
  unfold D_L_put at hr
  obtain ⟨⟨qa, qd⟩, hq, h2⟩ := Option.bind_eq_some_iff.mp hr
  refine CalH.of (by decide +kernel) (Nat.le_of_ble_eq_true rfl) hl ?_
  refine h_aload_n 3 3 (μ := m_L_put) (pc := 0) dL_put_0 rfl rfl ?_
  refine h_iconst (v := 0) (μ := m_L_put) (pc := 1) dL_put_1 (by decide) ?_
  refine h_aload_n 0 0 (μ := m_L_put) (pc := 2) dL_put_2 rfl rfl ?_
  refine h_iload_n 1 1 (μ := m_L_put) (pc := 3) dL_put_3 rfl rfl ?_
  refine h_iload_n 2 2 (μ := m_L_put) (pc := 4) dL_put_4 rfl rfl ?_
  refine h_callV (As := [.int x1, .int x2]) (rest := [.int 0, .ref a3]) (rc' := 0) (rs' := 0) (μ := m_L_put) (pc := 5) dL_put_5 cv_L_21 rfl k0 (by decide) rfl (Nat.le_of_ble_eq_true rfl) (d' := d - 1) (by omega) (by decide) (by decide) (c_X11_put (N := N) wt hl (d := d - 1) (by omega) k0 (qa, qd) hq _ _ ?_)
  cases qa with
  | inl v =>
    dsimp only at h2
    by_cases hz : q_N g a3 ≤ 0
    · rw [if_pos hz] at h2; cases h2
    · rw [if_neg hz] at h2
      cases h2
      refine h_i2l (μ := m_L_put) (pc := 8) dL_put_8 ?_
      refine h_last (μ := m_L_put) (pc := 9) dL_put_9 k3 (vp_n (by rintro (z | z); exact absurd z (by decide); exact hz z)) ?_
      refine h_goto 21 (μ := m_L_put) (pc := 10) dL_put_10 (by decide) ?_
      refine h_iconst (v := 0) (μ := m_L_put) (pc := 21) dL_put_21 (by decide) ?_
      exact h_iret (μ := m_L_put) (pc := 22) dL_put_22 rfl rfl hP
  | inr n =>
    dsimp only at h2
    by_cases n0 : n = 0
    · subst n0
      rw [if_pos rfl] at h2
      cases h2
      refine emk_x 0 rfl (ctc.mk' [] ⟨0, 10, 13, 25⟩ [⟨0, 10, 17, 13⟩] (exn 0) rfl ?_ (by decide) (by decide) lk_25 ca_0 (fun q => ?_))
      · intro z hz; cases hz
      · refine h_astore [(4, .ref q), (0, .ref a0), (1, .int x1), (2, .int x2), (3, .ref a3)] (μ := m_L_put) (pc := 13) dL_put_13 (by decide) rfl ?_
        refine h_iconst (v := 1) (μ := m_L_put) (pc := 15) dL_put_15 (by decide) ?_
        exact h_iret (μ := m_L_put) (pc := 16) dL_put_16 rfl rfl hP
    · rw [if_neg n0] at h2
      by_cases n1 : n = 1
      · subst n1
        rw [if_pos rfl] at h2
        cases h2
      · rw [if_neg n1] at h2
        have hn : exn 2 = exn n := by unfold exn; rw [if_neg n0, if_neg n1]; rfl
        cases h2
        refine emk_x 2 hn (ctc.mk' [⟨0, 10, 13, 25⟩] ⟨0, 10, 17, 13⟩ [] (exn 2) rfl ?_ (by decide) (by decide) lk_13 ca_2 (fun q => ?_))
        · intro z hz
          · cases List.mem_singleton.mp hz; exact Or.inr ⟨by decide, exn 0, lk_25, (by decide +kernel)⟩
        · refine h_astore [(4, .ref q), (0, .ref a0), (1, .int x1), (2, .int x2), (3, .ref a3)] (μ := m_L_put) (pc := 17) dL_put_17 (by decide) rfl ?_
          refine h_iconst (v := 2) (μ := m_L_put) (pc := 19) dL_put_19 (by decide) ?_
          exact h_iret (μ := m_L_put) (pc := 20) dL_put_20 rfl rfl hP
theorem ch_133 : clH hh_put RL 133 m_L_put 4 := ⟨T_4 90 rfl rfl, T_4 91 rfl rfl, T_1 0 rfl rfl, T_4 92 rfl rfl, ⟨nh_RL.1, nh_RL.2, ar_L_put⟩, by decide⟩
def hh_drop : List (Nat × Nat × Nat × Nat) := [(0, 10, 13, 25), (0, 10, 17, 13)]
def D_L_drop (N : Nat) (g : gp) (a0 : Nat) (x1 : Int32) (x2 : Int32) (a3 : Nat) (δ : dp) : Option (Int32 × dp) := (D_X11_drop N g a0 x1 x2 δ).bind fun r => match r.1 with
  | .inl v => if q_N g a3 ≤ 0 then none else some (0, s_J r.2 a3 0 v.toInt64)
  | .inr n => if n = 0 then some (1, r.2) else if n = 1 then none else some (2, r.2)
set_option maxHeartbeats 4000000 in
theorem c_L_drop {l : Launch} {D : va_G} {cy : Nat → ClassId} {N d : Nat} {g : gp} (wt : WT g) (hl : l.stackTraces = false) (hd : 13 ≤ d) {a0 : Nat} {x1 : Int32} {x2 : Int32} {a3 : Nat} {δ : dp} (k0 : q_K g a0 = 11) (k3 : q_K g a3 = 14) (r : Int32 × dp) (hr : D_L_drop N g a0 x1 x2 a3 δ = some r) {P : Option Value → hp → Prop} {X : String → hp → Prop} (hP : P (some (.int r.1)) (g, r.2)) : CalH hh_drop l D cy m_L_drop d 2 12 [.ref a0, .int x1, .int x2, .ref a3] (g, δ) P X := by
  unfold D_L_drop at hr
  obtain ⟨⟨qa, qd⟩, hq, h2⟩ := Option.bind_eq_some_iff.mp hr
  refine CalH.of (by decide +kernel) (Nat.le_of_ble_eq_true rfl) hl ?_
  refine h_aload_n 3 3 (μ := m_L_drop) (pc := 0) dL_drop_0 rfl rfl ?_
  refine h_iconst (v := 0) (μ := m_L_drop) (pc := 1) dL_drop_1 (by decide) ?_
  refine h_aload_n 0 0 (μ := m_L_drop) (pc := 2) dL_drop_2 rfl rfl ?_
  refine h_iload_n 1 1 (μ := m_L_drop) (pc := 3) dL_drop_3 rfl rfl ?_
  refine h_iload_n 2 2 (μ := m_L_drop) (pc := 4) dL_drop_4 rfl rfl ?_
  refine h_callV (As := [.int x1, .int x2]) (rest := [.int 0, .ref a3]) (rc' := 0) (rs' := 0) (μ := m_L_drop) (pc := 5) dL_drop_5 cv_L_27 rfl k0 (by decide) rfl (Nat.le_of_ble_eq_true rfl) (d' := d - 1) (by omega) (by decide) (by decide) (c_X11_drop (N := N) wt hl (d := d - 1) (by omega) k0 (qa, qd) hq _ _ ?_)
  cases qa with
  | inl v =>
    dsimp only at h2
    by_cases hz : q_N g a3 ≤ 0
    · rw [if_pos hz] at h2; cases h2
    · rw [if_neg hz] at h2
      cases h2
      refine h_i2l (μ := m_L_drop) (pc := 8) dL_drop_8 ?_
      refine h_last (μ := m_L_drop) (pc := 9) dL_drop_9 k3 (vp_n (by rintro (z | z); exact absurd z (by decide); exact hz z)) ?_
      refine h_goto 21 (μ := m_L_drop) (pc := 10) dL_drop_10 (by decide) ?_
      refine h_iconst (v := 0) (μ := m_L_drop) (pc := 21) dL_drop_21 (by decide) ?_
      exact h_iret (μ := m_L_drop) (pc := 22) dL_drop_22 rfl rfl hP
  | inr n =>
    dsimp only at h2
    by_cases n0 : n = 0
    · subst n0
      rw [if_pos rfl] at h2
      cases h2
      refine emk_x 0 rfl (ctc.mk' [] ⟨0, 10, 13, 25⟩ [⟨0, 10, 17, 13⟩] (exn 0) rfl ?_ (by decide) (by decide) lk_25 ca_0 (fun q => ?_))
      · intro z hz; cases hz
      · refine h_astore [(4, .ref q), (0, .ref a0), (1, .int x1), (2, .int x2), (3, .ref a3)] (μ := m_L_drop) (pc := 13) dL_drop_13 (by decide) rfl ?_
        refine h_iconst (v := 1) (μ := m_L_drop) (pc := 15) dL_drop_15 (by decide) ?_
        exact h_iret (μ := m_L_drop) (pc := 16) dL_drop_16 rfl rfl hP
    · rw [if_neg n0] at h2
      by_cases n1 : n = 1
      · subst n1
        rw [if_pos rfl] at h2
        cases h2
      · rw [if_neg n1] at h2
        have hn : exn 2 = exn n := by unfold exn; rw [if_neg n0, if_neg n1]; rfl
        cases h2
        refine emk_x 2 hn (ctc.mk' [⟨0, 10, 13, 25⟩] ⟨0, 10, 17, 13⟩ [] (exn 2) rfl ?_ (by decide) (by decide) lk_13 ca_2 (fun q => ?_))
        · intro z hz
          · cases List.mem_singleton.mp hz; exact Or.inr ⟨by decide, exn 0, lk_25, (by decide +kernel)⟩
        · refine h_astore [(4, .ref q), (0, .ref a0), (1, .int x1), (2, .int x2), (3, .ref a3)] (μ := m_L_drop) (pc := 17) dL_drop_17 (by decide) rfl ?_
          refine h_iconst (v := 2) (μ := m_L_drop) (pc := 19) dL_drop_19 (by decide) ?_
          exact h_iret (μ := m_L_drop) (pc := 20) dL_drop_20 rfl rfl hP
theorem ch_137 : clH hh_drop RL 137 m_L_drop 4 := ⟨T_4 199 rfl rfl, T_4 200 rfl rfl, T_1 0 rfl rfl, T_4 201 rfl rfl, ⟨nh_RL.1, nh_RL.2, ar_L_drop⟩, by decide⟩
def hh_has : List (Nat × Nat × Nat × Nat) := [(0, 17, 20, 25), (0, 17, 24, 13)]
def D_L_has (N : Nat) (g : gp) (a0 : Nat) (x1 : Int32) (x2 : Int32) (a3 : Nat) (δ : dp) : Option (Int32 × dp) := (D_X11_has N g a0 x1 x2 δ).bind fun r => match r.1 with
  | .inl v => if q_N g a3 ≤ 0 then none else some (0, s_J r.2 a3 0 (if v = 0 then 0 else 1))
  | .inr n => if n = 0 then some (1, r.2) else if n = 1 then none else some (2, r.2)
set_option maxHeartbeats 4000000 in
theorem c_L_has {l : Launch} {D : va_G} {cy : Nat → ClassId} {N d : Nat} {g : gp} (wt : WT g) (hl : l.stackTraces = false) (hd : 13 ≤ d) {a0 : Nat} {x1 : Int32} {x2 : Int32} {a3 : Nat} {δ : dp} (k0 : q_K g a0 = 11) (k3 : q_K g a3 = 14) (r : Int32 × dp) (hr : D_L_has N g a0 x1 x2 a3 δ = some r) {P : Option Value → hp → Prop} {X : String → hp → Prop} (hP : P (some (.int r.1)) (g, r.2)) : CalH hh_has l D cy m_L_has d 2 12 [.ref a0, .int x1, .int x2, .ref a3] (g, δ) P X := by
  unfold D_L_has at hr
  obtain ⟨⟨qa, qd⟩, hq, h2⟩ := Option.bind_eq_some_iff.mp hr
  refine CalH.of (by decide +kernel) (Nat.le_of_ble_eq_true rfl) hl ?_
  refine h_aload_n 3 3 (μ := m_L_has) (pc := 0) dL_has_0 rfl rfl ?_
  refine h_iconst (v := 0) (μ := m_L_has) (pc := 1) dL_has_1 (by decide) ?_
  refine h_aload_n 0 0 (μ := m_L_has) (pc := 2) dL_has_2 rfl rfl ?_
  refine h_iload_n 1 1 (μ := m_L_has) (pc := 3) dL_has_3 rfl rfl ?_
  refine h_iload_n 2 2 (μ := m_L_has) (pc := 4) dL_has_4 rfl rfl ?_
  refine h_callV (As := [.int x1, .int x2]) (rest := [.int 0, .ref a3]) (rc' := 0) (rs' := 0) (μ := m_L_has) (pc := 5) dL_has_5 cv_L_30 rfl k0 (by decide) rfl (Nat.le_of_ble_eq_true rfl) (d' := d - 1) (by omega) (by decide) (by decide) (c_X11_has (N := N) wt hl (d := d - 1) (by omega) k0 (qa, qd) hq _ _ ?_)
  cases qa with
  | inl v =>
    dsimp only at h2
    by_cases hz : q_N g a3 ≤ 0
    · rw [if_pos hz] at h2; cases h2
    · rw [if_neg hz] at h2
      cases h2
      refine h_if_eq 15 (μ := m_L_has) (pc := 8) dL_has_8 (by decide) (fun zv => ?_) (fun zv => ?_)
      · rw [if_pos zv] at hP
        refine h_lconst (v := 0) (μ := m_L_has) (pc := 15) dL_has_15 (by decide) ?_
        refine h_last (μ := m_L_has) (pc := 16) dL_has_16 k3 (vp_n (by rintro (z | z); exact absurd z (by decide); exact hz z)) ?_
        refine h_goto 28 (μ := m_L_has) (pc := 17) dL_has_17 (by decide) ?_
        refine h_iconst (v := 0) (μ := m_L_has) (pc := 28) dL_has_28 (by decide) ?_
        exact h_iret (μ := m_L_has) (pc := 29) dL_has_29 rfl rfl hP
      · rw [if_neg zv] at hP
        refine h_lconst (v := 1) (μ := m_L_has) (pc := 11) dL_has_11 (by decide) ?_
        refine h_goto 16 (μ := m_L_has) (pc := 12) dL_has_12 (by decide) ?_
        refine h_last (μ := m_L_has) (pc := 16) dL_has_16 k3 (vp_n (by rintro (z | z); exact absurd z (by decide); exact hz z)) ?_
        refine h_goto 28 (μ := m_L_has) (pc := 17) dL_has_17 (by decide) ?_
        refine h_iconst (v := 0) (μ := m_L_has) (pc := 28) dL_has_28 (by decide) ?_
        exact h_iret (μ := m_L_has) (pc := 29) dL_has_29 rfl rfl hP
  | inr n =>
    dsimp only at h2
    by_cases n0 : n = 0
    · subst n0
      rw [if_pos rfl] at h2
      cases h2
      refine emk_x 0 rfl (ctc.mk' [] ⟨0, 17, 20, 25⟩ [⟨0, 17, 24, 13⟩] (exn 0) rfl ?_ (by decide) (by decide) lk_25 ca_0 (fun q => ?_))
      · intro z hz; cases hz
      · refine h_astore [(4, .ref q), (0, .ref a0), (1, .int x1), (2, .int x2), (3, .ref a3)] (μ := m_L_has) (pc := 20) dL_has_20 (by decide) rfl ?_
        refine h_iconst (v := 1) (μ := m_L_has) (pc := 22) dL_has_22 (by decide) ?_
        exact h_iret (μ := m_L_has) (pc := 23) dL_has_23 rfl rfl hP
    · rw [if_neg n0] at h2
      by_cases n1 : n = 1
      · subst n1
        rw [if_pos rfl] at h2
        cases h2
      · rw [if_neg n1] at h2
        have hn : exn 2 = exn n := by unfold exn; rw [if_neg n0, if_neg n1]; rfl
        cases h2
        refine emk_x 2 hn (ctc.mk' [⟨0, 17, 20, 25⟩] ⟨0, 17, 24, 13⟩ [] (exn 2) rfl ?_ (by decide) (by decide) lk_13 ca_2 (fun q => ?_))
        · intro z hz
          · cases List.mem_singleton.mp hz; exact Or.inr ⟨by decide, exn 0, lk_25, (by decide +kernel)⟩
        · refine h_astore [(4, .ref q), (0, .ref a0), (1, .int x1), (2, .int x2), (3, .ref a3)] (μ := m_L_has) (pc := 24) dL_has_24 (by decide) rfl ?_
          refine h_iconst (v := 2) (μ := m_L_has) (pc := 26) dL_has_26 (by decide) ?_
          exact h_iret (μ := m_L_has) (pc := 27) dL_has_27 rfl rfl hP
theorem ch_140 : clH hh_has RL 140 m_L_has 4 := ⟨T_4 206 rfl rfl, T_4 207 rfl rfl, T_1 0 rfl rfl, T_4 208 rfl rfl, ⟨nh_RL.1, nh_RL.2, ar_L_has⟩, by decide⟩
def hh_of : List (Nat × Nat × Nat × Nat) := [(0, 10, 13, 25), (0, 10, 17, 13)]
def D_L_of (N : Nat) (g : gp) (a0 : Nat) (x1 : Int32) (x2 : Int32) (a3 : Nat) (δ : dp) : Option (Int32 × dp) := (D_X11_of N g a0 x1 x2 δ).bind fun r => match r.1 with
  | .inl v => if q_N g a3 ≤ 0 then none else some (0, s_J r.2 a3 0 v.toInt64)
  | .inr n => if n = 0 then some (1, r.2) else if n = 1 then none else some (2, r.2)
set_option maxHeartbeats 4000000 in
theorem c_L_of {l : Launch} {D : va_G} {cy : Nat → ClassId} {N d : Nat} {g : gp} (wt : WT g) (hl : l.stackTraces = false) (hd : 12 ≤ d) {a0 : Nat} {x1 : Int32} {x2 : Int32} {a3 : Nat} {δ : dp} (k0 : q_K g a0 = 11) (k3 : q_K g a3 = 14) (r : Int32 × dp) (hr : D_L_of N g a0 x1 x2 a3 δ = some r) {P : Option Value → hp → Prop} {X : String → hp → Prop} (hP : P (some (.int r.1)) (g, r.2)) : CalH hh_of l D cy m_L_of d 2 12 [.ref a0, .int x1, .int x2, .ref a3] (g, δ) P X := by
  unfold D_L_of at hr
  obtain ⟨⟨qa, qd⟩, hq, h2⟩ := Option.bind_eq_some_iff.mp hr
  refine CalH.of (by decide +kernel) (Nat.le_of_ble_eq_true rfl) hl ?_
  refine h_aload_n 3 3 (μ := m_L_of) (pc := 0) dL_of_0 rfl rfl ?_
  refine h_iconst (v := 0) (μ := m_L_of) (pc := 1) dL_of_1 (by decide) ?_
  refine h_aload_n 0 0 (μ := m_L_of) (pc := 2) dL_of_2 rfl rfl ?_
  refine h_iload_n 1 1 (μ := m_L_of) (pc := 3) dL_of_3 rfl rfl ?_
  refine h_iload_n 2 2 (μ := m_L_of) (pc := 4) dL_of_4 rfl rfl ?_
  refine h_callV (As := [.int x1, .int x2]) (rest := [.int 0, .ref a3]) (rc' := 0) (rs' := 0) (μ := m_L_of) (pc := 5) dL_of_5 cv_L_34 rfl k0 (by decide) rfl (Nat.le_of_ble_eq_true rfl) (d' := d - 1) (by omega) (by decide) (by decide) (c_X11_of (N := N) wt hl (d := d - 1) (by omega) k0 (qa, qd) hq _ _ ?_)
  cases qa with
  | inl v =>
    dsimp only at h2
    by_cases hz : q_N g a3 ≤ 0
    · rw [if_pos hz] at h2; cases h2
    · rw [if_neg hz] at h2
      cases h2
      refine h_i2l (μ := m_L_of) (pc := 8) dL_of_8 ?_
      refine h_last (μ := m_L_of) (pc := 9) dL_of_9 k3 (vp_n (by rintro (z | z); exact absurd z (by decide); exact hz z)) ?_
      refine h_goto 21 (μ := m_L_of) (pc := 10) dL_of_10 (by decide) ?_
      refine h_iconst (v := 0) (μ := m_L_of) (pc := 21) dL_of_21 (by decide) ?_
      exact h_iret (μ := m_L_of) (pc := 22) dL_of_22 rfl rfl hP
  | inr n =>
    dsimp only at h2
    by_cases n0 : n = 0
    · subst n0
      rw [if_pos rfl] at h2
      cases h2
      refine emk_x 0 rfl (ctc.mk' [] ⟨0, 10, 13, 25⟩ [⟨0, 10, 17, 13⟩] (exn 0) rfl ?_ (by decide) (by decide) lk_25 ca_0 (fun q => ?_))
      · intro z hz; cases hz
      · refine h_astore [(4, .ref q), (0, .ref a0), (1, .int x1), (2, .int x2), (3, .ref a3)] (μ := m_L_of) (pc := 13) dL_of_13 (by decide) rfl ?_
        refine h_iconst (v := 1) (μ := m_L_of) (pc := 15) dL_of_15 (by decide) ?_
        exact h_iret (μ := m_L_of) (pc := 16) dL_of_16 rfl rfl hP
    · rw [if_neg n0] at h2
      by_cases n1 : n = 1
      · subst n1
        rw [if_pos rfl] at h2
        cases h2
      · rw [if_neg n1] at h2
        have hn : exn 2 = exn n := by unfold exn; rw [if_neg n0, if_neg n1]; rfl
        cases h2
        refine emk_x 2 hn (ctc.mk' [⟨0, 10, 13, 25⟩] ⟨0, 10, 17, 13⟩ [] (exn 2) rfl ?_ (by decide) (by decide) lk_13 ca_2 (fun q => ?_))
        · intro z hz
          · cases List.mem_singleton.mp hz; exact Or.inr ⟨by decide, exn 0, lk_25, (by decide +kernel)⟩
        · refine h_astore [(4, .ref q), (0, .ref a0), (1, .int x1), (2, .int x2), (3, .ref a3)] (μ := m_L_of) (pc := 17) dL_of_17 (by decide) rfl ?_
          refine h_iconst (v := 2) (μ := m_L_of) (pc := 19) dL_of_19 (by decide) ?_
          exact h_iret (μ := m_L_of) (pc := 20) dL_of_20 rfl rfl hP
theorem ch_143 : clH hh_of RL 143 m_L_of 4 := ⟨T_4 214 rfl rfl, T_4 215 rfl rfl, T_1 0 rfl rfl, T_4 216 rfl rfl, ⟨nh_RL.1, nh_RL.2, ar_L_of⟩, by decide⟩
def hh_next : List (Nat × Nat × Nat × Nat) := [(0, 10, 13, 25), (0, 10, 17, 13)]
def D_L_next (N : Nat) (g : gp) (a0 : Nat) (x1 : Int32) (x2 : Int32) (a3 : Nat) (δ : dp) : Option (Int32 × dp) := (D_X11_next N g a0 x1 x2 δ).bind fun r => match r.1 with
  | .inl v => if q_N g a3 ≤ 0 then none else some (0, s_J r.2 a3 0 v.toInt64)
  | .inr n => if n = 0 then some (1, r.2) else if n = 1 then none else some (2, r.2)
set_option maxHeartbeats 4000000 in
theorem c_L_next {l : Launch} {D : va_G} {cy : Nat → ClassId} {N d : Nat} {g : gp} (wt : WT g) (hl : l.stackTraces = false) (hd : 12 ≤ d) {a0 : Nat} {x1 : Int32} {x2 : Int32} {a3 : Nat} {δ : dp} (k0 : q_K g a0 = 11) (k3 : q_K g a3 = 14) (r : Int32 × dp) (hr : D_L_next N g a0 x1 x2 a3 δ = some r) {P : Option Value → hp → Prop} {X : String → hp → Prop} (hP : P (some (.int r.1)) (g, r.2)) : CalH hh_next l D cy m_L_next d 2 12 [.ref a0, .int x1, .int x2, .ref a3] (g, δ) P X := by
  unfold D_L_next at hr
  obtain ⟨⟨qa, qd⟩, hq, h2⟩ := Option.bind_eq_some_iff.mp hr
  refine CalH.of (by decide +kernel) (Nat.le_of_ble_eq_true rfl) hl ?_
  refine h_aload_n 3 3 (μ := m_L_next) (pc := 0) dL_next_0 rfl rfl ?_
  refine h_iconst (v := 0) (μ := m_L_next) (pc := 1) dL_next_1 (by decide) ?_
  refine h_aload_n 0 0 (μ := m_L_next) (pc := 2) dL_next_2 rfl rfl ?_
  refine h_iload_n 1 1 (μ := m_L_next) (pc := 3) dL_next_3 rfl rfl ?_
  refine h_iload_n 2 2 (μ := m_L_next) (pc := 4) dL_next_4 rfl rfl ?_
  refine h_callV (As := [.int x1, .int x2]) (rest := [.int 0, .ref a3]) (rc' := 0) (rs' := 0) (μ := m_L_next) (pc := 5) dL_next_5 cv_L_37 rfl k0 (by decide) rfl (Nat.le_of_ble_eq_true rfl) (d' := d - 1) (by omega) (by decide) (by decide) (c_X11_next (N := N) wt hl (d := d - 1) (by omega) k0 (qa, qd) hq _ _ ?_)
  cases qa with
  | inl v =>
    dsimp only at h2
    by_cases hz : q_N g a3 ≤ 0
    · rw [if_pos hz] at h2; cases h2
    · rw [if_neg hz] at h2
      cases h2
      refine h_i2l (μ := m_L_next) (pc := 8) dL_next_8 ?_
      refine h_last (μ := m_L_next) (pc := 9) dL_next_9 k3 (vp_n (by rintro (z | z); exact absurd z (by decide); exact hz z)) ?_
      refine h_goto 21 (μ := m_L_next) (pc := 10) dL_next_10 (by decide) ?_
      refine h_iconst (v := 0) (μ := m_L_next) (pc := 21) dL_next_21 (by decide) ?_
      exact h_iret (μ := m_L_next) (pc := 22) dL_next_22 rfl rfl hP
  | inr n =>
    dsimp only at h2
    by_cases n0 : n = 0
    · subst n0
      rw [if_pos rfl] at h2
      cases h2
      refine emk_x 0 rfl (ctc.mk' [] ⟨0, 10, 13, 25⟩ [⟨0, 10, 17, 13⟩] (exn 0) rfl ?_ (by decide) (by decide) lk_25 ca_0 (fun q => ?_))
      · intro z hz; cases hz
      · refine h_astore [(4, .ref q), (0, .ref a0), (1, .int x1), (2, .int x2), (3, .ref a3)] (μ := m_L_next) (pc := 13) dL_next_13 (by decide) rfl ?_
        refine h_iconst (v := 1) (μ := m_L_next) (pc := 15) dL_next_15 (by decide) ?_
        exact h_iret (μ := m_L_next) (pc := 16) dL_next_16 rfl rfl hP
    · rw [if_neg n0] at h2
      by_cases n1 : n = 1
      · subst n1
        rw [if_pos rfl] at h2
        cases h2
      · rw [if_neg n1] at h2
        have hn : exn 2 = exn n := by unfold exn; rw [if_neg n0, if_neg n1]; rfl
        cases h2
        refine emk_x 2 hn (ctc.mk' [⟨0, 10, 13, 25⟩] ⟨0, 10, 17, 13⟩ [] (exn 2) rfl ?_ (by decide) (by decide) lk_13 ca_2 (fun q => ?_))
        · intro z hz
          · cases List.mem_singleton.mp hz; exact Or.inr ⟨by decide, exn 0, lk_25, (by decide +kernel)⟩
        · refine h_astore [(4, .ref q), (0, .ref a0), (1, .int x1), (2, .int x2), (3, .ref a3)] (μ := m_L_next) (pc := 17) dL_next_17 (by decide) rfl ?_
          refine h_iconst (v := 2) (μ := m_L_next) (pc := 19) dL_next_19 (by decide) ?_
          exact h_iret (μ := m_L_next) (pc := 20) dL_next_20 rfl rfl hP
theorem ch_146 : clH hh_next RL 146 m_L_next 4 := ⟨T_4 229 rfl rfl, T_4 230 rfl rfl, T_1 0 rfl rfl, T_4 231 rfl rfl, ⟨nh_RL.1, nh_RL.2, ar_L_next⟩, by decide⟩
def hh_before : List (Nat × Nat × Nat × Nat) := [(0, 10, 13, 25), (0, 10, 17, 13)]
def D_L_before (N : Nat) (g : gp) (a0 : Nat) (x1 : Int32) (x2 : Int32) (a3 : Nat) (δ : dp) : Option (Int32 × dp) := (D_X11_before N g a0 x1 x2 δ).bind fun r => match r.1 with
  | .inl v => if q_N g a3 ≤ 0 then none else some (0, s_J r.2 a3 0 v.toInt64)
  | .inr n => if n = 0 then some (1, r.2) else if n = 1 then none else some (2, r.2)
set_option maxHeartbeats 4000000 in
theorem c_L_before {l : Launch} {D : va_G} {cy : Nat → ClassId} {N d : Nat} {g : gp} (wt : WT g) (hl : l.stackTraces = false) (hd : 12 ≤ d) {a0 : Nat} {x1 : Int32} {x2 : Int32} {a3 : Nat} {δ : dp} (k0 : q_K g a0 = 11) (k3 : q_K g a3 = 14) (r : Int32 × dp) (hr : D_L_before N g a0 x1 x2 a3 δ = some r) {P : Option Value → hp → Prop} {X : String → hp → Prop} (hP : P (some (.int r.1)) (g, r.2)) : CalH hh_before l D cy m_L_before d 2 12 [.ref a0, .int x1, .int x2, .ref a3] (g, δ) P X := by
  unfold D_L_before at hr
  obtain ⟨⟨qa, qd⟩, hq, h2⟩ := Option.bind_eq_some_iff.mp hr
  refine CalH.of (by decide +kernel) (Nat.le_of_ble_eq_true rfl) hl ?_
  refine h_aload_n 3 3 (μ := m_L_before) (pc := 0) dL_before_0 rfl rfl ?_
  refine h_iconst (v := 0) (μ := m_L_before) (pc := 1) dL_before_1 (by decide) ?_
  refine h_aload_n 0 0 (μ := m_L_before) (pc := 2) dL_before_2 rfl rfl ?_
  refine h_iload_n 1 1 (μ := m_L_before) (pc := 3) dL_before_3 rfl rfl ?_
  refine h_iload_n 2 2 (μ := m_L_before) (pc := 4) dL_before_4 rfl rfl ?_
  refine h_callV (As := [.int x1, .int x2]) (rest := [.int 0, .ref a3]) (rc' := 0) (rs' := 0) (μ := m_L_before) (pc := 5) dL_before_5 cv_L_40 rfl k0 (by decide) rfl (Nat.le_of_ble_eq_true rfl) (d' := d - 1) (by omega) (by decide) (by decide) (c_X11_before (N := N) wt hl (d := d - 1) (by omega) k0 (qa, qd) hq _ _ ?_)
  cases qa with
  | inl v =>
    dsimp only at h2
    by_cases hz : q_N g a3 ≤ 0
    · rw [if_pos hz] at h2; cases h2
    · rw [if_neg hz] at h2
      cases h2
      refine h_i2l (μ := m_L_before) (pc := 8) dL_before_8 ?_
      refine h_last (μ := m_L_before) (pc := 9) dL_before_9 k3 (vp_n (by rintro (z | z); exact absurd z (by decide); exact hz z)) ?_
      refine h_goto 21 (μ := m_L_before) (pc := 10) dL_before_10 (by decide) ?_
      refine h_iconst (v := 0) (μ := m_L_before) (pc := 21) dL_before_21 (by decide) ?_
      exact h_iret (μ := m_L_before) (pc := 22) dL_before_22 rfl rfl hP
  | inr n =>
    dsimp only at h2
    by_cases n0 : n = 0
    · subst n0
      rw [if_pos rfl] at h2
      cases h2
      refine emk_x 0 rfl (ctc.mk' [] ⟨0, 10, 13, 25⟩ [⟨0, 10, 17, 13⟩] (exn 0) rfl ?_ (by decide) (by decide) lk_25 ca_0 (fun q => ?_))
      · intro z hz; cases hz
      · refine h_astore [(4, .ref q), (0, .ref a0), (1, .int x1), (2, .int x2), (3, .ref a3)] (μ := m_L_before) (pc := 13) dL_before_13 (by decide) rfl ?_
        refine h_iconst (v := 1) (μ := m_L_before) (pc := 15) dL_before_15 (by decide) ?_
        exact h_iret (μ := m_L_before) (pc := 16) dL_before_16 rfl rfl hP
    · rw [if_neg n0] at h2
      by_cases n1 : n = 1
      · subst n1
        rw [if_pos rfl] at h2
        cases h2
      · rw [if_neg n1] at h2
        have hn : exn 2 = exn n := by unfold exn; rw [if_neg n0, if_neg n1]; rfl
        cases h2
        refine emk_x 2 hn (ctc.mk' [⟨0, 10, 13, 25⟩] ⟨0, 10, 17, 13⟩ [] (exn 2) rfl ?_ (by decide) (by decide) lk_13 ca_2 (fun q => ?_))
        · intro z hz
          · cases List.mem_singleton.mp hz; exact Or.inr ⟨by decide, exn 0, lk_25, (by decide +kernel)⟩
        · refine h_astore [(4, .ref q), (0, .ref a0), (1, .int x1), (2, .int x2), (3, .ref a3)] (μ := m_L_before) (pc := 17) dL_before_17 (by decide) rfl ?_
          refine h_iconst (v := 2) (μ := m_L_before) (pc := 19) dL_before_19 (by decide) ?_
          exact h_iret (μ := m_L_before) (pc := 20) dL_before_20 rfl rfl hP
theorem ch_149 : clH hh_before RL 149 m_L_before 4 := ⟨T_5 4 rfl rfl, T_5 5 rfl rfl, T_1 0 rfl rfl, T_5 6 rfl rfl, ⟨nh_RL.1, nh_RL.2, ar_L_before⟩, by decide⟩
def hh_kth : List (Nat × Nat × Nat × Nat) := [(0, 10, 13, 25)]
def D_L_kth (N : Nat) (g : gp) (a0 : Nat) (x1 : Int32) (x2 : Int32) (a3 : Nat) (δ : dp) : Option (Int32 × dp) := (D_X11_kth N g a0 x1 x2 δ).bind fun r => match r.1 with
  | .inl v => if q_N g a3 ≤ 0 then none else some (0, s_J r.2 a3 0 v.toInt64)
  | .inr n => if n = 0 then some (1, r.2) else if n = 1 then none else none
set_option maxHeartbeats 4000000 in
theorem c_L_kth {l : Launch} {D : va_G} {cy : Nat → ClassId} {N d : Nat} {g : gp} (wt : WT g) (hl : l.stackTraces = false) (hd : 12 ≤ d) {a0 : Nat} {x1 : Int32} {x2 : Int32} {a3 : Nat} {δ : dp} (k0 : q_K g a0 = 11) (k3 : q_K g a3 = 14) (r : Int32 × dp) (hr : D_L_kth N g a0 x1 x2 a3 δ = some r) {P : Option Value → hp → Prop} {X : String → hp → Prop} (hP : P (some (.int r.1)) (g, r.2)) : CalH hh_kth l D cy m_L_kth d 1 6 [.ref a0, .int x1, .int x2, .ref a3] (g, δ) P X := by
  unfold D_L_kth at hr
  obtain ⟨⟨qa, qd⟩, hq, h2⟩ := Option.bind_eq_some_iff.mp hr
  refine CalH.of (by decide +kernel) (Nat.le_of_ble_eq_true rfl) hl ?_
  refine h_aload_n 3 3 (μ := m_L_kth) (pc := 0) dL_kth_0 rfl rfl ?_
  refine h_iconst (v := 0) (μ := m_L_kth) (pc := 1) dL_kth_1 (by decide) ?_
  refine h_aload_n 0 0 (μ := m_L_kth) (pc := 2) dL_kth_2 rfl rfl ?_
  refine h_iload_n 1 1 (μ := m_L_kth) (pc := 3) dL_kth_3 rfl rfl ?_
  refine h_iload_n 2 2 (μ := m_L_kth) (pc := 4) dL_kth_4 rfl rfl ?_
  refine h_callV (As := [.int x1, .int x2]) (rest := [.int 0, .ref a3]) (rc' := 0) (rs' := 0) (μ := m_L_kth) (pc := 5) dL_kth_5 cv_L_43 rfl k0 (by decide) rfl (Nat.le_of_ble_eq_true rfl) (d' := d - 1) (by omega) (by decide) (by decide) (c_X11_kth (N := N) wt hl (d := d - 1) (by omega) k0 (qa, qd) hq _ _ ?_)
  cases qa with
  | inl v =>
    dsimp only at h2
    by_cases hz : q_N g a3 ≤ 0
    · rw [if_pos hz] at h2; cases h2
    · rw [if_neg hz] at h2
      cases h2
      refine h_i2l (μ := m_L_kth) (pc := 8) dL_kth_8 ?_
      refine h_last (μ := m_L_kth) (pc := 9) dL_kth_9 k3 (vp_n (by rintro (z | z); exact absurd z (by decide); exact hz z)) ?_
      refine h_goto 17 (μ := m_L_kth) (pc := 10) dL_kth_10 (by decide) ?_
      refine h_iconst (v := 0) (μ := m_L_kth) (pc := 17) dL_kth_17 (by decide) ?_
      exact h_iret (μ := m_L_kth) (pc := 18) dL_kth_18 rfl rfl hP
  | inr n =>
    dsimp only at h2
    by_cases n0 : n = 0
    · subst n0
      rw [if_pos rfl] at h2
      cases h2
      refine emk_x 0 rfl (ctc.mk' [] ⟨0, 10, 13, 25⟩ [] (exn 0) rfl ?_ (by decide) (by decide) lk_25 ca_0 (fun q => ?_))
      · intro z hz; cases hz
      · refine h_astore [(4, .ref q), (0, .ref a0), (1, .int x1), (2, .int x2), (3, .ref a3)] (μ := m_L_kth) (pc := 13) dL_kth_13 (by decide) rfl ?_
        refine h_iconst (v := 1) (μ := m_L_kth) (pc := 15) dL_kth_15 (by decide) ?_
        exact h_iret (μ := m_L_kth) (pc := 16) dL_kth_16 rfl rfl hP
    · rw [if_neg n0] at h2
      by_cases n1 : n = 1
      · subst n1
        rw [if_pos rfl] at h2
        cases h2
      · rw [if_neg n1] at h2
        cases h2
theorem ch_152 : clH hh_kth RL 152 m_L_kth 4 := ⟨T_5 15 rfl rfl, T_5 16 rfl rfl, T_1 0 rfl rfl, T_5 17 rfl rfl, ⟨nh_RL.1, nh_RL.2, ar_L_kth⟩, by decide⟩
def hh_between : List (Nat × Nat × Nat × Nat) := [(0, 12, 15, 25), (0, 12, 19, 13)]
def D_L_between (N : Nat) (g : gp) (a0 : Nat) (x1 : Int32) (x2 : Int32) (x3 : Int32) (a4 : Nat) (δ : dp) : Option (Int32 × dp) := (D_X11_between N g a0 x1 x2 x3 δ).bind fun r => match r.1 with
  | .inl v => if q_N g a4 ≤ 0 then none else some (0, s_J r.2 a4 0 v.toInt64)
  | .inr n => if n = 0 then some (1, r.2) else if n = 1 then none else some (2, r.2)
set_option maxHeartbeats 4000000 in
theorem c_L_between {l : Launch} {D : va_G} {cy : Nat → ClassId} {N d : Nat} {g : gp} (wt : WT g) (hl : l.stackTraces = false) (hd : 12 ≤ d) {a0 : Nat} {x1 : Int32} {x2 : Int32} {x3 : Int32} {a4 : Nat} {δ : dp} (k0 : q_K g a0 = 11) (k4 : q_K g a4 = 14) (r : Int32 × dp) (hr : D_L_between N g a0 x1 x2 x3 a4 δ = some r) {P : Option Value → hp → Prop} {X : String → hp → Prop} (hP : P (some (.int r.1)) (g, r.2)) : CalH hh_between l D cy m_L_between d 2 12 [.ref a0, .int x1, .int x2, .int x3, .ref a4] (g, δ) P X := by
  unfold D_L_between at hr
  obtain ⟨⟨qa, qd⟩, hq, h2⟩ := Option.bind_eq_some_iff.mp hr
  refine CalH.of (by decide +kernel) (Nat.le_of_ble_eq_true rfl) hl ?_
  refine h_aload 4 (μ := m_L_between) (pc := 0) dL_between_0 rfl ?_
  refine h_iconst (v := 0) (μ := m_L_between) (pc := 2) dL_between_2 (by decide) ?_
  refine h_aload_n 0 0 (μ := m_L_between) (pc := 3) dL_between_3 rfl rfl ?_
  refine h_iload_n 1 1 (μ := m_L_between) (pc := 4) dL_between_4 rfl rfl ?_
  refine h_iload_n 2 2 (μ := m_L_between) (pc := 5) dL_between_5 rfl rfl ?_
  refine h_iload_n 3 3 (μ := m_L_between) (pc := 6) dL_between_6 rfl rfl ?_
  refine h_callV (As := [.int x1, .int x2, .int x3]) (rest := [.int 0, .ref a4]) (rc' := 0) (rs' := 0) (μ := m_L_between) (pc := 7) dL_between_7 cv_L_46 rfl k0 (by decide) rfl (Nat.le_of_ble_eq_true rfl) (d' := d - 1) (by omega) (by decide) (by decide) (c_X11_between (N := N) wt hl (d := d - 1) (by omega) k0 (qa, qd) hq _ _ ?_)
  cases qa with
  | inl v =>
    dsimp only at h2
    by_cases hz : q_N g a4 ≤ 0
    · rw [if_pos hz] at h2; cases h2
    · rw [if_neg hz] at h2
      cases h2
      refine h_i2l (μ := m_L_between) (pc := 10) dL_between_10 ?_
      refine h_last (μ := m_L_between) (pc := 11) dL_between_11 k4 (vp_n (by rintro (z | z); exact absurd z (by decide); exact hz z)) ?_
      refine h_goto 23 (μ := m_L_between) (pc := 12) dL_between_12 (by decide) ?_
      refine h_iconst (v := 0) (μ := m_L_between) (pc := 23) dL_between_23 (by decide) ?_
      exact h_iret (μ := m_L_between) (pc := 24) dL_between_24 rfl rfl hP
  | inr n =>
    dsimp only at h2
    by_cases n0 : n = 0
    · subst n0
      rw [if_pos rfl] at h2
      cases h2
      refine emk_x 0 rfl (ctc.mk' [] ⟨0, 12, 15, 25⟩ [⟨0, 12, 19, 13⟩] (exn 0) rfl ?_ (by decide) (by decide) lk_25 ca_0 (fun q => ?_))
      · intro z hz; cases hz
      · refine h_astore [(5, .ref q), (0, .ref a0), (1, .int x1), (2, .int x2), (3, .int x3), (4, .ref a4)] (μ := m_L_between) (pc := 15) dL_between_15 (by decide) rfl ?_
        refine h_iconst (v := 1) (μ := m_L_between) (pc := 17) dL_between_17 (by decide) ?_
        exact h_iret (μ := m_L_between) (pc := 18) dL_between_18 rfl rfl hP
    · rw [if_neg n0] at h2
      by_cases n1 : n = 1
      · subst n1
        rw [if_pos rfl] at h2
        cases h2
      · rw [if_neg n1] at h2
        have hn : exn 2 = exn n := by unfold exn; rw [if_neg n0, if_neg n1]; rfl
        cases h2
        refine emk_x 2 hn (ctc.mk' [⟨0, 12, 15, 25⟩] ⟨0, 12, 19, 13⟩ [] (exn 2) rfl ?_ (by decide) (by decide) lk_13 ca_2 (fun q => ?_))
        · intro z hz
          · cases List.mem_singleton.mp hz; exact Or.inr ⟨by decide, exn 0, lk_25, (by decide +kernel)⟩
        · refine h_astore [(5, .ref q), (0, .ref a0), (1, .int x1), (2, .int x2), (3, .int x3), (4, .ref a4)] (μ := m_L_between) (pc := 19) dL_between_19 (by decide) rfl ?_
          refine h_iconst (v := 2) (μ := m_L_between) (pc := 21) dL_between_21 (by decide) ?_
          exact h_iret (μ := m_L_between) (pc := 22) dL_between_22 rfl rfl hP
theorem ch_155 : clH hh_between RL 155 m_L_between 5 := ⟨T_5 23 rfl rfl, T_5 24 rfl rfl, T_1 0 rfl rfl, T_5 25 rfl rfl, ⟨nh_RL.1, nh_RL.2, ar_L_between⟩, by decide⟩
def hh_touches : List (Nat × Nat × Nat × Nat) := [(0, 14, 17, 25), (0, 14, 21, 13)]
def D_L_touches (N : Nat) (g : gp) (a0 : Nat) (x1 : Int32) (x2 : Int32) (x3 : Int32) (x4 : Int32) (a5 : Nat) (δ : dp) : Option (Int32 × dp) := (D_X11_touches N g a0 x1 x2 x3 x4 δ).bind fun r => match r.1 with
  | .inl v => if q_N g a5 ≤ 0 then none else some (0, s_J r.2 a5 0 v.toInt64)
  | .inr n => if n = 0 then some (1, r.2) else if n = 1 then none else some (2, r.2)
set_option maxHeartbeats 4000000 in
theorem c_L_touches {l : Launch} {D : va_G} {cy : Nat → ClassId} {N d : Nat} {g : gp} (wt : WT g) (hl : l.stackTraces = false) (hd : 12 ≤ d) {a0 : Nat} {x1 : Int32} {x2 : Int32} {x3 : Int32} {x4 : Int32} {a5 : Nat} {δ : dp} (k0 : q_K g a0 = 11) (k5 : q_K g a5 = 14) (r : Int32 × dp) (hr : D_L_touches N g a0 x1 x2 x3 x4 a5 δ = some r) {P : Option Value → hp → Prop} {X : String → hp → Prop} (hP : P (some (.int r.1)) (g, r.2)) : CalH hh_touches l D cy m_L_touches d 2 12 [.ref a0, .int x1, .int x2, .int x3, .int x4, .ref a5] (g, δ) P X := by
  unfold D_L_touches at hr
  obtain ⟨⟨qa, qd⟩, hq, h2⟩ := Option.bind_eq_some_iff.mp hr
  refine CalH.of (by decide +kernel) (Nat.le_of_ble_eq_true rfl) hl ?_
  refine h_aload 5 (μ := m_L_touches) (pc := 0) dL_touches_0 rfl ?_
  refine h_iconst (v := 0) (μ := m_L_touches) (pc := 2) dL_touches_2 (by decide) ?_
  refine h_aload_n 0 0 (μ := m_L_touches) (pc := 3) dL_touches_3 rfl rfl ?_
  refine h_iload_n 1 1 (μ := m_L_touches) (pc := 4) dL_touches_4 rfl rfl ?_
  refine h_iload_n 2 2 (μ := m_L_touches) (pc := 5) dL_touches_5 rfl rfl ?_
  refine h_iload_n 3 3 (μ := m_L_touches) (pc := 6) dL_touches_6 rfl rfl ?_
  refine h_iload 4 (μ := m_L_touches) (pc := 7) dL_touches_7 rfl ?_
  refine h_callV (As := [.int x1, .int x2, .int x3, .int x4]) (rest := [.int 0, .ref a5]) (rc' := 0) (rs' := 0) (μ := m_L_touches) (pc := 9) dL_touches_9 cv_L_50 rfl k0 (by decide) rfl (Nat.le_of_ble_eq_true rfl) (d' := d - 1) (by omega) (by decide) (by decide) (c_X11_touches (N := N) wt hl (d := d - 1) (by omega) k0 (qa, qd) hq _ _ ?_)
  cases qa with
  | inl v =>
    dsimp only at h2
    by_cases hz : q_N g a5 ≤ 0
    · rw [if_pos hz] at h2; cases h2
    · rw [if_neg hz] at h2
      cases h2
      refine h_i2l (μ := m_L_touches) (pc := 12) dL_touches_12 ?_
      refine h_last (μ := m_L_touches) (pc := 13) dL_touches_13 k5 (vp_n (by rintro (z | z); exact absurd z (by decide); exact hz z)) ?_
      refine h_goto 25 (μ := m_L_touches) (pc := 14) dL_touches_14 (by decide) ?_
      refine h_iconst (v := 0) (μ := m_L_touches) (pc := 25) dL_touches_25 (by decide) ?_
      exact h_iret (μ := m_L_touches) (pc := 26) dL_touches_26 rfl rfl hP
  | inr n =>
    dsimp only at h2
    by_cases n0 : n = 0
    · subst n0
      rw [if_pos rfl] at h2
      cases h2
      refine emk_x 0 rfl (ctc.mk' [] ⟨0, 14, 17, 25⟩ [⟨0, 14, 21, 13⟩] (exn 0) rfl ?_ (by decide) (by decide) lk_25 ca_0 (fun q => ?_))
      · intro z hz; cases hz
      · refine h_astore [(6, .ref q), (0, .ref a0), (1, .int x1), (2, .int x2), (3, .int x3), (4, .int x4), (5, .ref a5)] (μ := m_L_touches) (pc := 17) dL_touches_17 (by decide) rfl ?_
        refine h_iconst (v := 1) (μ := m_L_touches) (pc := 19) dL_touches_19 (by decide) ?_
        exact h_iret (μ := m_L_touches) (pc := 20) dL_touches_20 rfl rfl hP
    · rw [if_neg n0] at h2
      by_cases n1 : n = 1
      · subst n1
        rw [if_pos rfl] at h2
        cases h2
      · rw [if_neg n1] at h2
        have hn : exn 2 = exn n := by unfold exn; rw [if_neg n0, if_neg n1]; rfl
        cases h2
        refine emk_x 2 hn (ctc.mk' [⟨0, 14, 17, 25⟩] ⟨0, 14, 21, 13⟩ [] (exn 2) rfl ?_ (by decide) (by decide) lk_13 ca_2 (fun q => ?_))
        · intro z hz
          · cases List.mem_singleton.mp hz; exact Or.inr ⟨by decide, exn 0, lk_25, (by decide +kernel)⟩
        · refine h_astore [(6, .ref q), (0, .ref a0), (1, .int x1), (2, .int x2), (3, .int x3), (4, .int x4), (5, .ref a5)] (μ := m_L_touches) (pc := 21) dL_touches_21 (by decide) rfl ?_
          refine h_iconst (v := 2) (μ := m_L_touches) (pc := 23) dL_touches_23 (by decide) ?_
          exact h_iret (μ := m_L_touches) (pc := 24) dL_touches_24 rfl rfl hP
theorem ch_159 : clH hh_touches RL 159 m_L_touches 6 := ⟨T_5 31 rfl rfl, T_5 32 rfl rfl, T_1 0 rfl rfl, T_5 33 rfl rfl, ⟨nh_RL.1, nh_RL.2, ar_L_touches⟩, by decide⟩
def hh_size : List (Nat × Nat × Nat × Nat) := [(0, 10, 13, 25), (0, 10, 17, 13)]
def D_L_size (N : Nat) (g : gp) (a0 : Nat) (x1 : Int32) (x2 : Int32) (a3 : Nat) (δ : dp) : Option (Int32 × dp) := (D_X11_size N g a0 x1 x2 δ).bind fun r => match r.1 with
  | .inl v => if q_N g a3 ≤ 0 then none else some (0, s_J r.2 a3 0 v.toInt64)
  | .inr n => if n = 0 then some (1, r.2) else if n = 1 then none else some (2, r.2)
set_option maxHeartbeats 4000000 in
theorem c_L_size {l : Launch} {D : va_G} {cy : Nat → ClassId} {N d : Nat} {g : gp} (wt : WT g) (hl : l.stackTraces = false) (hd : 25 ≤ d) {a0 : Nat} {x1 : Int32} {x2 : Int32} {a3 : Nat} {δ : dp} (k0 : q_K g a0 = 11) (k3 : q_K g a3 = 14) (r : Int32 × dp) (hr : D_L_size N g a0 x1 x2 a3 δ = some r) {P : Option Value → hp → Prop} {X : String → hp → Prop} (hP : P (some (.int r.1)) (g, r.2)) : CalH hh_size l D cy m_L_size d 2 12 [.ref a0, .int x1, .int x2, .ref a3] (g, δ) P X := by
  unfold D_L_size at hr
  obtain ⟨⟨qa, qd⟩, hq, h2⟩ := Option.bind_eq_some_iff.mp hr
  refine CalH.of (by decide +kernel) (Nat.le_of_ble_eq_true rfl) hl ?_
  refine h_aload_n 3 3 (μ := m_L_size) (pc := 0) dL_size_0 rfl rfl ?_
  refine h_iconst (v := 0) (μ := m_L_size) (pc := 1) dL_size_1 (by decide) ?_
  refine h_aload_n 0 0 (μ := m_L_size) (pc := 2) dL_size_2 rfl rfl ?_
  refine h_iload_n 1 1 (μ := m_L_size) (pc := 3) dL_size_3 rfl rfl ?_
  refine h_iload_n 2 2 (μ := m_L_size) (pc := 4) dL_size_4 rfl rfl ?_
  refine h_callV (As := [.int x1, .int x2]) (rest := [.int 0, .ref a3]) (rc' := 0) (rs' := 0) (μ := m_L_size) (pc := 5) dL_size_5 cv_L_54 rfl k0 (by decide) rfl (Nat.le_of_ble_eq_true rfl) (d' := d - 1) (by omega) (by decide) (by decide) (c_X11_size (N := N) wt hl (d := d - 1) (by omega) k0 (qa, qd) hq _ _ ?_)
  cases qa with
  | inl v =>
    dsimp only at h2
    by_cases hz : q_N g a3 ≤ 0
    · rw [if_pos hz] at h2; cases h2
    · rw [if_neg hz] at h2
      cases h2
      refine h_i2l (μ := m_L_size) (pc := 8) dL_size_8 ?_
      refine h_last (μ := m_L_size) (pc := 9) dL_size_9 k3 (vp_n (by rintro (z | z); exact absurd z (by decide); exact hz z)) ?_
      refine h_goto 21 (μ := m_L_size) (pc := 10) dL_size_10 (by decide) ?_
      refine h_iconst (v := 0) (μ := m_L_size) (pc := 21) dL_size_21 (by decide) ?_
      exact h_iret (μ := m_L_size) (pc := 22) dL_size_22 rfl rfl hP
  | inr n =>
    dsimp only at h2
    by_cases n0 : n = 0
    · subst n0
      rw [if_pos rfl] at h2
      cases h2
      refine emk_x 0 rfl (ctc.mk' [] ⟨0, 10, 13, 25⟩ [⟨0, 10, 17, 13⟩] (exn 0) rfl ?_ (by decide) (by decide) lk_25 ca_0 (fun q => ?_))
      · intro z hz; cases hz
      · refine h_astore [(4, .ref q), (0, .ref a0), (1, .int x1), (2, .int x2), (3, .ref a3)] (μ := m_L_size) (pc := 13) dL_size_13 (by decide) rfl ?_
        refine h_iconst (v := 1) (μ := m_L_size) (pc := 15) dL_size_15 (by decide) ?_
        exact h_iret (μ := m_L_size) (pc := 16) dL_size_16 rfl rfl hP
    · rw [if_neg n0] at h2
      by_cases n1 : n = 1
      · subst n1
        rw [if_pos rfl] at h2
        cases h2
      · rw [if_neg n1] at h2
        have hn : exn 2 = exn n := by unfold exn; rw [if_neg n0, if_neg n1]; rfl
        cases h2
        refine emk_x 2 hn (ctc.mk' [⟨0, 10, 13, 25⟩] ⟨0, 10, 17, 13⟩ [] (exn 2) rfl ?_ (by decide) (by decide) lk_13 ca_2 (fun q => ?_))
        · intro z hz
          · cases List.mem_singleton.mp hz; exact Or.inr ⟨by decide, exn 0, lk_25, (by decide +kernel)⟩
        · refine h_astore [(4, .ref q), (0, .ref a0), (1, .int x1), (2, .int x2), (3, .ref a3)] (μ := m_L_size) (pc := 17) dL_size_17 (by decide) rfl ?_
          refine h_iconst (v := 2) (μ := m_L_size) (pc := 19) dL_size_19 (by decide) ?_
          exact h_iret (μ := m_L_size) (pc := 20) dL_size_20 rfl rfl hP
theorem ch_163 : clH hh_size RL 163 m_L_size 4 := ⟨T_5 58 rfl rfl, T_5 59 rfl rfl, T_1 0 rfl rfl, T_5 60 rfl rfl, ⟨nh_RL.1, nh_RL.2, ar_L_size⟩, by decide⟩
def hh_bound : List (Nat × Nat × Nat × Nat) := [(0, 9, 12, 13)]
def D_L_bound (N : Nat) (g : gp) (a0 : Nat) (x1 : Int32) (a2 : Nat) (δ : dp) : Option (Int32 × dp) := (D_X11_bound N g a0 x1 δ).bind fun r => match r.1 with
  | .inl v => if q_N g a2 ≤ 0 then none else some (0, s_J r.2 a2 0 v.toInt64)
  | .inr n => if n = 0 then none else if n = 1 then none else some (1, r.2)
set_option maxHeartbeats 4000000 in
theorem c_L_bound {l : Launch} {D : va_G} {cy : Nat → ClassId} {N d : Nat} {g : gp} (wt : WT g) (hl : l.stackTraces = false) (hd : 25 ≤ d) {a0 : Nat} {x1 : Int32} {a2 : Nat} {δ : dp} (k0 : q_K g a0 = 11) (k2 : q_K g a2 = 14) (r : Int32 × dp) (hr : D_L_bound N g a0 x1 a2 δ = some r) {P : Option Value → hp → Prop} {X : String → hp → Prop} (hP : P (some (.int r.1)) (g, r.2)) : CalH hh_bound l D cy m_L_bound d 1 6 [.ref a0, .int x1, .ref a2] (g, δ) P X := by
  unfold D_L_bound at hr
  obtain ⟨⟨qa, qd⟩, hq, h2⟩ := Option.bind_eq_some_iff.mp hr
  refine CalH.of (by decide +kernel) (Nat.le_of_ble_eq_true rfl) hl ?_
  refine h_aload_n 2 2 (μ := m_L_bound) (pc := 0) dL_bound_0 rfl rfl ?_
  refine h_iconst (v := 0) (μ := m_L_bound) (pc := 1) dL_bound_1 (by decide) ?_
  refine h_aload_n 0 0 (μ := m_L_bound) (pc := 2) dL_bound_2 rfl rfl ?_
  refine h_iload_n 1 1 (μ := m_L_bound) (pc := 3) dL_bound_3 rfl rfl ?_
  refine h_callV (As := [.int x1]) (rest := [.int 0, .ref a2]) (rc' := 0) (rs' := 0) (μ := m_L_bound) (pc := 4) dL_bound_4 cv_L_57 rfl k0 (by decide) rfl (Nat.le_of_ble_eq_true rfl) (d' := d - 1) (by omega) (by decide) (by decide) (c_X11_bound (N := N) wt hl (d := d - 1) (by omega) k0 (qa, qd) hq _ _ ?_)
  cases qa with
  | inl v =>
    dsimp only at h2
    by_cases hz : q_N g a2 ≤ 0
    · rw [if_pos hz] at h2; cases h2
    · rw [if_neg hz] at h2
      cases h2
      refine h_i2l (μ := m_L_bound) (pc := 7) dL_bound_7 ?_
      refine h_last (μ := m_L_bound) (pc := 8) dL_bound_8 k2 (vp_n (by rintro (z | z); exact absurd z (by decide); exact hz z)) ?_
      refine h_goto 15 (μ := m_L_bound) (pc := 9) dL_bound_9 (by decide) ?_
      refine h_iconst (v := 0) (μ := m_L_bound) (pc := 15) dL_bound_15 (by decide) ?_
      exact h_iret (μ := m_L_bound) (pc := 16) dL_bound_16 rfl rfl hP
  | inr n =>
    dsimp only at h2
    by_cases n0 : n = 0
    · subst n0
      rw [if_pos rfl] at h2
      cases h2
    · rw [if_neg n0] at h2
      by_cases n1 : n = 1
      · subst n1
        rw [if_pos rfl] at h2
        cases h2
      · rw [if_neg n1] at h2
        have hn : exn 2 = exn n := by unfold exn; rw [if_neg n0, if_neg n1]; rfl
        cases h2
        refine emk_x 2 hn (ctc.mk' [] ⟨0, 9, 12, 13⟩ [] (exn 2) rfl ?_ (by decide) (by decide) lk_13 ca_2 (fun q => ?_))
        · intro z hz; cases hz
        · refine h_astore_n [(3, .ref q), (0, .ref a0), (1, .int x1), (2, .ref a2)] (μ := m_L_bound) (pc := 12) dL_bound_12 rfl (by decide) rfl ?_
          refine h_iconst (v := 1) (μ := m_L_bound) (pc := 13) dL_bound_13 (by decide) ?_
          exact h_iret (μ := m_L_bound) (pc := 14) dL_bound_14 rfl rfl hP
theorem ch_166 : clH hh_bound RL 166 m_L_bound 3 := ⟨T_5 74 rfl rfl, T_5 75 rfl rfl, T_1 0 rfl rfl, T_5 76 rfl rfl, ⟨nh_RL.1, nh_RL.2, ar_L_bound⟩, by decide⟩
def hh_worst : List (Nat × Nat × Nat × Nat) := [(0, 12, 15, 13)]
def D_L_worst (N : Nat) (g : gp) (a0 : Nat) (x1 : Int32) (x2 : Int32) (x3 : Int32) (a4 : Nat) (δ : dp) : Option (Int32 × dp) := (D_X11_worst N g a0 x1 x2 x3 δ).bind fun r => match r.1 with
  | .inl v => if q_N g a4 ≤ 0 then none else some (0, s_J r.2 a4 0 v.toInt64)
  | .inr n => if n = 0 then none else if n = 1 then none else some (1, r.2)
set_option maxHeartbeats 4000000 in
theorem c_L_worst {l : Launch} {D : va_G} {cy : Nat → ClassId} {N d : Nat} {g : gp} (wt : WT g) (hl : l.stackTraces = false) (hd : 26 ≤ d) {a0 : Nat} {x1 : Int32} {x2 : Int32} {x3 : Int32} {a4 : Nat} {δ : dp} (k0 : q_K g a0 = 11) (k4 : q_K g a4 = 14) (r : Int32 × dp) (hr : D_L_worst N g a0 x1 x2 x3 a4 δ = some r) {P : Option Value → hp → Prop} {X : String → hp → Prop} (hP : P (some (.int r.1)) (g, r.2)) : CalH hh_worst l D cy m_L_worst d 1 6 [.ref a0, .int x1, .int x2, .int x3, .ref a4] (g, δ) P X := by
  unfold D_L_worst at hr
  obtain ⟨⟨qa, qd⟩, hq, h2⟩ := Option.bind_eq_some_iff.mp hr
  refine CalH.of (by decide +kernel) (Nat.le_of_ble_eq_true rfl) hl ?_
  refine h_aload 4 (μ := m_L_worst) (pc := 0) dL_worst_0 rfl ?_
  refine h_iconst (v := 0) (μ := m_L_worst) (pc := 2) dL_worst_2 (by decide) ?_
  refine h_aload_n 0 0 (μ := m_L_worst) (pc := 3) dL_worst_3 rfl rfl ?_
  refine h_iload_n 1 1 (μ := m_L_worst) (pc := 4) dL_worst_4 rfl rfl ?_
  refine h_iload_n 2 2 (μ := m_L_worst) (pc := 5) dL_worst_5 rfl rfl ?_
  refine h_iload_n 3 3 (μ := m_L_worst) (pc := 6) dL_worst_6 rfl rfl ?_
  refine h_callV (As := [.int x1, .int x2, .int x3]) (rest := [.int 0, .ref a4]) (rc' := 0) (rs' := 0) (μ := m_L_worst) (pc := 7) dL_worst_7 cv_L_60 rfl k0 (by decide) rfl (Nat.le_of_ble_eq_true rfl) (d' := d - 1) (by omega) (by decide) (by decide) (c_X11_worst (N := N) wt hl (d := d - 1) (by omega) k0 (qa, qd) hq _ _ ?_)
  cases qa with
  | inl v =>
    dsimp only at h2
    by_cases hz : q_N g a4 ≤ 0
    · rw [if_pos hz] at h2; cases h2
    · rw [if_neg hz] at h2
      cases h2
      refine h_i2l (μ := m_L_worst) (pc := 10) dL_worst_10 ?_
      refine h_last (μ := m_L_worst) (pc := 11) dL_worst_11 k4 (vp_n (by rintro (z | z); exact absurd z (by decide); exact hz z)) ?_
      refine h_goto 19 (μ := m_L_worst) (pc := 12) dL_worst_12 (by decide) ?_
      refine h_iconst (v := 0) (μ := m_L_worst) (pc := 19) dL_worst_19 (by decide) ?_
      exact h_iret (μ := m_L_worst) (pc := 20) dL_worst_20 rfl rfl hP
  | inr n =>
    dsimp only at h2
    by_cases n0 : n = 0
    · subst n0
      rw [if_pos rfl] at h2
      cases h2
    · rw [if_neg n0] at h2
      by_cases n1 : n = 1
      · subst n1
        rw [if_pos rfl] at h2
        cases h2
      · rw [if_neg n1] at h2
        have hn : exn 2 = exn n := by unfold exn; rw [if_neg n0, if_neg n1]; rfl
        cases h2
        refine emk_x 2 hn (ctc.mk' [] ⟨0, 12, 15, 13⟩ [] (exn 2) rfl ?_ (by decide) (by decide) lk_13 ca_2 (fun q => ?_))
        · intro z hz; cases hz
        · refine h_astore [(5, .ref q), (0, .ref a0), (1, .int x1), (2, .int x2), (3, .int x3), (4, .ref a4)] (μ := m_L_worst) (pc := 15) dL_worst_15 (by decide) rfl ?_
          refine h_iconst (v := 1) (μ := m_L_worst) (pc := 17) dL_worst_17 (by decide) ?_
          exact h_iret (μ := m_L_worst) (pc := 18) dL_worst_18 rfl rfl hP
theorem ch_169 : clH hh_worst RL 169 m_L_worst 5 := ⟨T_5 92 rfl rfl, T_5 93 rfl rfl, T_1 0 rfl rfl, T_5 94 rfl rfl, ⟨nh_RL.1, nh_RL.2, ar_L_worst⟩, by decide⟩
def hh_bad : List (Nat × Nat × Nat × Nat) := [(0, 12, 15, 13)]
def D_L_bad (N : Nat) (g : gp) (a0 : Nat) (x1 : Int32) (x2 : Int32) (x3 : Int32) (a4 : Nat) (δ : dp) : Option (Int32 × dp) := (D_X11_bad N g a0 x1 x2 x3 δ).bind fun r => match r.1 with
  | .inl v => if q_N g a4 ≤ 0 then none else some (0, s_J r.2 a4 0 v.toInt64)
  | .inr n => if n = 0 then none else if n = 1 then none else some (1, r.2)
set_option maxHeartbeats 4000000 in
theorem c_L_bad {l : Launch} {D : va_G} {cy : Nat → ClassId} {N d : Nat} {g : gp} (wt : WT g) (hl : l.stackTraces = false) (hd : 26 ≤ d) {a0 : Nat} {x1 : Int32} {x2 : Int32} {x3 : Int32} {a4 : Nat} {δ : dp} (k0 : q_K g a0 = 11) (k4 : q_K g a4 = 14) (r : Int32 × dp) (hr : D_L_bad N g a0 x1 x2 x3 a4 δ = some r) {P : Option Value → hp → Prop} {X : String → hp → Prop} (hP : P (some (.int r.1)) (g, r.2)) : CalH hh_bad l D cy m_L_bad d 1 6 [.ref a0, .int x1, .int x2, .int x3, .ref a4] (g, δ) P X := by
  unfold D_L_bad at hr
  obtain ⟨⟨qa, qd⟩, hq, h2⟩ := Option.bind_eq_some_iff.mp hr
  refine CalH.of (by decide +kernel) (Nat.le_of_ble_eq_true rfl) hl ?_
  refine h_aload 4 (μ := m_L_bad) (pc := 0) dL_bad_0 rfl ?_
  refine h_iconst (v := 0) (μ := m_L_bad) (pc := 2) dL_bad_2 (by decide) ?_
  refine h_aload_n 0 0 (μ := m_L_bad) (pc := 3) dL_bad_3 rfl rfl ?_
  refine h_iload_n 1 1 (μ := m_L_bad) (pc := 4) dL_bad_4 rfl rfl ?_
  refine h_iload_n 2 2 (μ := m_L_bad) (pc := 5) dL_bad_5 rfl rfl ?_
  refine h_iload_n 3 3 (μ := m_L_bad) (pc := 6) dL_bad_6 rfl rfl ?_
  refine h_callV (As := [.int x1, .int x2, .int x3]) (rest := [.int 0, .ref a4]) (rc' := 0) (rs' := 0) (μ := m_L_bad) (pc := 7) dL_bad_7 cv_L_63 rfl k0 (by decide) rfl (Nat.le_of_ble_eq_true rfl) (d' := d - 1) (by omega) (by decide) (by decide) (c_X11_bad (N := N) wt hl (d := d - 1) (by omega) k0 (qa, qd) hq _ _ ?_)
  cases qa with
  | inl v =>
    dsimp only at h2
    by_cases hz : q_N g a4 ≤ 0
    · rw [if_pos hz] at h2; cases h2
    · rw [if_neg hz] at h2
      cases h2
      refine h_i2l (μ := m_L_bad) (pc := 10) dL_bad_10 ?_
      refine h_last (μ := m_L_bad) (pc := 11) dL_bad_11 k4 (vp_n (by rintro (z | z); exact absurd z (by decide); exact hz z)) ?_
      refine h_goto 19 (μ := m_L_bad) (pc := 12) dL_bad_12 (by decide) ?_
      refine h_iconst (v := 0) (μ := m_L_bad) (pc := 19) dL_bad_19 (by decide) ?_
      exact h_iret (μ := m_L_bad) (pc := 20) dL_bad_20 rfl rfl hP
  | inr n =>
    dsimp only at h2
    by_cases n0 : n = 0
    · subst n0
      rw [if_pos rfl] at h2
      cases h2
    · rw [if_neg n0] at h2
      by_cases n1 : n = 1
      · subst n1
        rw [if_pos rfl] at h2
        cases h2
      · rw [if_neg n1] at h2
        have hn : exn 2 = exn n := by unfold exn; rw [if_neg n0, if_neg n1]; rfl
        cases h2
        refine emk_x 2 hn (ctc.mk' [] ⟨0, 12, 15, 13⟩ [] (exn 2) rfl ?_ (by decide) (by decide) lk_13 ca_2 (fun q => ?_))
        · intro z hz; cases hz
        · refine h_astore [(5, .ref q), (0, .ref a0), (1, .int x1), (2, .int x2), (3, .int x3), (4, .ref a4)] (μ := m_L_bad) (pc := 15) dL_bad_15 (by decide) rfl ?_
          refine h_iconst (v := 1) (μ := m_L_bad) (pc := 17) dL_bad_17 (by decide) ?_
          exact h_iret (μ := m_L_bad) (pc := 18) dL_bad_18 rfl rfl hP
theorem ch_172 : clH hh_bad RL 172 m_L_bad 5 := ⟨T_5 147 rfl rfl, T_5 148 rfl rfl, T_1 0 rfl rfl, T_5 149 rfl rfl, ⟨nh_RL.1, nh_RL.2, ar_L_bad⟩, by decide⟩
def hh_was : List (Nat × Nat × Nat × Nat) := [(0, 12, 15, 25), (0, 12, 19, 13)]
def D_L_was (N : Nat) (g : gp) (a0 : Nat) (x1 : Int32) (x2 : Int32) (x3 : Int32) (a4 : Nat) (δ : dp) : Option (Int32 × dp) := (D_X11_was N g a0 x1 x2 x3 δ).bind fun r => match r.1 with
  | .inl v => if q_N g a4 ≤ 0 then none else some (0, s_J r.2 a4 0 v.toInt64)
  | .inr n => if n = 0 then some (1, r.2) else if n = 1 then none else some (2, r.2)
set_option maxHeartbeats 4000000 in
theorem c_L_was {l : Launch} {D : va_G} {cy : Nat → ClassId} {N d : Nat} {g : gp} (wt : WT g) (hl : l.stackTraces = false) (hd : 12 ≤ d) {a0 : Nat} {x1 : Int32} {x2 : Int32} {x3 : Int32} {a4 : Nat} {δ : dp} (k0 : q_K g a0 = 11) (k4 : q_K g a4 = 14) (r : Int32 × dp) (hr : D_L_was N g a0 x1 x2 x3 a4 δ = some r) {P : Option Value → hp → Prop} {X : String → hp → Prop} (hP : P (some (.int r.1)) (g, r.2)) : CalH hh_was l D cy m_L_was d 2 12 [.ref a0, .int x1, .int x2, .int x3, .ref a4] (g, δ) P X := by
  unfold D_L_was at hr
  obtain ⟨⟨qa, qd⟩, hq, h2⟩ := Option.bind_eq_some_iff.mp hr
  refine CalH.of (by decide +kernel) (Nat.le_of_ble_eq_true rfl) hl ?_
  refine h_aload 4 (μ := m_L_was) (pc := 0) dL_was_0 rfl ?_
  refine h_iconst (v := 0) (μ := m_L_was) (pc := 2) dL_was_2 (by decide) ?_
  refine h_aload_n 0 0 (μ := m_L_was) (pc := 3) dL_was_3 rfl rfl ?_
  refine h_iload_n 1 1 (μ := m_L_was) (pc := 4) dL_was_4 rfl rfl ?_
  refine h_iload_n 2 2 (μ := m_L_was) (pc := 5) dL_was_5 rfl rfl ?_
  refine h_iload_n 3 3 (μ := m_L_was) (pc := 6) dL_was_6 rfl rfl ?_
  refine h_callV (As := [.int x1, .int x2, .int x3]) (rest := [.int 0, .ref a4]) (rc' := 0) (rs' := 0) (μ := m_L_was) (pc := 7) dL_was_7 cv_L_66 rfl k0 (by decide) rfl (Nat.le_of_ble_eq_true rfl) (d' := d - 1) (by omega) (by decide) (by decide) (c_X11_was (N := N) wt hl (d := d - 1) (by omega) k0 (qa, qd) hq _ _ ?_)
  cases qa with
  | inl v =>
    dsimp only at h2
    by_cases hz : q_N g a4 ≤ 0
    · rw [if_pos hz] at h2; cases h2
    · rw [if_neg hz] at h2
      cases h2
      refine h_i2l (μ := m_L_was) (pc := 10) dL_was_10 ?_
      refine h_last (μ := m_L_was) (pc := 11) dL_was_11 k4 (vp_n (by rintro (z | z); exact absurd z (by decide); exact hz z)) ?_
      refine h_goto 23 (μ := m_L_was) (pc := 12) dL_was_12 (by decide) ?_
      refine h_iconst (v := 0) (μ := m_L_was) (pc := 23) dL_was_23 (by decide) ?_
      exact h_iret (μ := m_L_was) (pc := 24) dL_was_24 rfl rfl hP
  | inr n =>
    dsimp only at h2
    by_cases n0 : n = 0
    · subst n0
      rw [if_pos rfl] at h2
      cases h2
      refine emk_x 0 rfl (ctc.mk' [] ⟨0, 12, 15, 25⟩ [⟨0, 12, 19, 13⟩] (exn 0) rfl ?_ (by decide) (by decide) lk_25 ca_0 (fun q => ?_))
      · intro z hz; cases hz
      · refine h_astore [(5, .ref q), (0, .ref a0), (1, .int x1), (2, .int x2), (3, .int x3), (4, .ref a4)] (μ := m_L_was) (pc := 15) dL_was_15 (by decide) rfl ?_
        refine h_iconst (v := 1) (μ := m_L_was) (pc := 17) dL_was_17 (by decide) ?_
        exact h_iret (μ := m_L_was) (pc := 18) dL_was_18 rfl rfl hP
    · rw [if_neg n0] at h2
      by_cases n1 : n = 1
      · subst n1
        rw [if_pos rfl] at h2
        cases h2
      · rw [if_neg n1] at h2
        have hn : exn 2 = exn n := by unfold exn; rw [if_neg n0, if_neg n1]; rfl
        cases h2
        refine emk_x 2 hn (ctc.mk' [⟨0, 12, 15, 25⟩] ⟨0, 12, 19, 13⟩ [] (exn 2) rfl ?_ (by decide) (by decide) lk_13 ca_2 (fun q => ?_))
        · intro z hz
          · cases List.mem_singleton.mp hz; exact Or.inr ⟨by decide, exn 0, lk_25, (by decide +kernel)⟩
        · refine h_astore [(5, .ref q), (0, .ref a0), (1, .int x1), (2, .int x2), (3, .int x3), (4, .ref a4)] (μ := m_L_was) (pc := 19) dL_was_19 (by decide) rfl ?_
          refine h_iconst (v := 2) (μ := m_L_was) (pc := 21) dL_was_21 (by decide) ?_
          exact h_iret (μ := m_L_was) (pc := 22) dL_was_22 rfl rfl hP
theorem ch_175 : clH hh_was RL 175 m_L_was 5 := ⟨T_5 158 rfl rfl, T_5 159 rfl rfl, T_1 0 rfl rfl, T_5 160 rfl rfl, ⟨nh_RL.1, nh_RL.2, ar_L_was⟩, by decide⟩
def hh_asked : List (Nat × Nat × Nat × Nat) := [(0, 14, 17, 25), (0, 14, 21, 13)]
def D_L_asked (N : Nat) (g : gp) (a0 : Nat) (x1 : Int32) (x2 : Int32) (x3 : Int32) (x4 : Int32) (a5 : Nat) (δ : dp) : Option (Int32 × dp) := (D_X11_asked N g a0 x1 x2 x3 x4 δ).bind fun r => match r.1 with
  | .inl v => if q_N g a5 ≤ 0 then none else some (0, s_J r.2 a5 0 v.toInt64)
  | .inr n => if n = 0 then some (1, r.2) else if n = 1 then none else some (2, r.2)
set_option maxHeartbeats 4000000 in
theorem c_L_asked {l : Launch} {D : va_G} {cy : Nat → ClassId} {N d : Nat} {g : gp} (wt : WT g) (hl : l.stackTraces = false) (hd : 12 ≤ d) {a0 : Nat} {x1 : Int32} {x2 : Int32} {x3 : Int32} {x4 : Int32} {a5 : Nat} {δ : dp} (k0 : q_K g a0 = 11) (k5 : q_K g a5 = 14) (r : Int32 × dp) (hr : D_L_asked N g a0 x1 x2 x3 x4 a5 δ = some r) {P : Option Value → hp → Prop} {X : String → hp → Prop} (hP : P (some (.int r.1)) (g, r.2)) : CalH hh_asked l D cy m_L_asked d 2 12 [.ref a0, .int x1, .int x2, .int x3, .int x4, .ref a5] (g, δ) P X := by
  unfold D_L_asked at hr
  obtain ⟨⟨qa, qd⟩, hq, h2⟩ := Option.bind_eq_some_iff.mp hr
  refine CalH.of (by decide +kernel) (Nat.le_of_ble_eq_true rfl) hl ?_
  refine h_aload 5 (μ := m_L_asked) (pc := 0) dL_asked_0 rfl ?_
  refine h_iconst (v := 0) (μ := m_L_asked) (pc := 2) dL_asked_2 (by decide) ?_
  refine h_aload_n 0 0 (μ := m_L_asked) (pc := 3) dL_asked_3 rfl rfl ?_
  refine h_iload_n 1 1 (μ := m_L_asked) (pc := 4) dL_asked_4 rfl rfl ?_
  refine h_iload_n 2 2 (μ := m_L_asked) (pc := 5) dL_asked_5 rfl rfl ?_
  refine h_iload_n 3 3 (μ := m_L_asked) (pc := 6) dL_asked_6 rfl rfl ?_
  refine h_iload 4 (μ := m_L_asked) (pc := 7) dL_asked_7 rfl ?_
  refine h_callV (As := [.int x1, .int x2, .int x3, .int x4]) (rest := [.int 0, .ref a5]) (rc' := 0) (rs' := 0) (μ := m_L_asked) (pc := 9) dL_asked_9 cv_L_69 rfl k0 (by decide) rfl (Nat.le_of_ble_eq_true rfl) (d' := d - 1) (by omega) (by decide) (by decide) (c_X11_asked (N := N) wt hl (d := d - 1) (by omega) k0 (qa, qd) hq _ _ ?_)
  cases qa with
  | inl v =>
    dsimp only at h2
    by_cases hz : q_N g a5 ≤ 0
    · rw [if_pos hz] at h2; cases h2
    · rw [if_neg hz] at h2
      cases h2
      refine h_i2l (μ := m_L_asked) (pc := 12) dL_asked_12 ?_
      refine h_last (μ := m_L_asked) (pc := 13) dL_asked_13 k5 (vp_n (by rintro (z | z); exact absurd z (by decide); exact hz z)) ?_
      refine h_goto 25 (μ := m_L_asked) (pc := 14) dL_asked_14 (by decide) ?_
      refine h_iconst (v := 0) (μ := m_L_asked) (pc := 25) dL_asked_25 (by decide) ?_
      exact h_iret (μ := m_L_asked) (pc := 26) dL_asked_26 rfl rfl hP
  | inr n =>
    dsimp only at h2
    by_cases n0 : n = 0
    · subst n0
      rw [if_pos rfl] at h2
      cases h2
      refine emk_x 0 rfl (ctc.mk' [] ⟨0, 14, 17, 25⟩ [⟨0, 14, 21, 13⟩] (exn 0) rfl ?_ (by decide) (by decide) lk_25 ca_0 (fun q => ?_))
      · intro z hz; cases hz
      · refine h_astore [(6, .ref q), (0, .ref a0), (1, .int x1), (2, .int x2), (3, .int x3), (4, .int x4), (5, .ref a5)] (μ := m_L_asked) (pc := 17) dL_asked_17 (by decide) rfl ?_
        refine h_iconst (v := 1) (μ := m_L_asked) (pc := 19) dL_asked_19 (by decide) ?_
        exact h_iret (μ := m_L_asked) (pc := 20) dL_asked_20 rfl rfl hP
    · rw [if_neg n0] at h2
      by_cases n1 : n = 1
      · subst n1
        rw [if_pos rfl] at h2
        cases h2
      · rw [if_neg n1] at h2
        have hn : exn 2 = exn n := by unfold exn; rw [if_neg n0, if_neg n1]; rfl
        cases h2
        refine emk_x 2 hn (ctc.mk' [⟨0, 14, 17, 25⟩] ⟨0, 14, 21, 13⟩ [] (exn 2) rfl ?_ (by decide) (by decide) lk_13 ca_2 (fun q => ?_))
        · intro z hz
          · cases List.mem_singleton.mp hz; exact Or.inr ⟨by decide, exn 0, lk_25, (by decide +kernel)⟩
        · refine h_astore [(6, .ref q), (0, .ref a0), (1, .int x1), (2, .int x2), (3, .int x3), (4, .int x4), (5, .ref a5)] (μ := m_L_asked) (pc := 21) dL_asked_21 (by decide) rfl ?_
          refine h_iconst (v := 2) (μ := m_L_asked) (pc := 23) dL_asked_23 (by decide) ?_
          exact h_iret (μ := m_L_asked) (pc := 24) dL_asked_24 rfl rfl hP
theorem ch_181 : clH hh_asked RL 181 m_L_asked 6 := ⟨T_5 169 rfl rfl, T_5 170 rfl rfl, T_1 0 rfl rfl, T_5 171 rfl rfl, ⟨nh_RL.1, nh_RL.2, ar_L_asked⟩, by decide⟩
def hh_since : List (Nat × Nat × Nat × Nat) := [(0, 12, 15, 25), (0, 12, 19, 13)]
def D_L_since (N : Nat) (g : gp) (a0 : Nat) (x1 : Int32) (x2 : Int32) (x3 : Int32) (a4 : Nat) (δ : dp) : Option (Int32 × dp) := (D_X11_since N g a0 x1 x2 x3 δ).bind fun r => match r.1 with
  | .inl v => if q_N g a4 ≤ 0 then none else some (0, s_J r.2 a4 0 v.toInt64)
  | .inr n => if n = 0 then some (1, r.2) else if n = 1 then none else some (2, r.2)
set_option maxHeartbeats 4000000 in
theorem c_L_since {l : Launch} {D : va_G} {cy : Nat → ClassId} {N d : Nat} {g : gp} (wt : WT g) (hl : l.stackTraces = false) (hd : 12 ≤ d) {a0 : Nat} {x1 : Int32} {x2 : Int32} {x3 : Int32} {a4 : Nat} {δ : dp} (k0 : q_K g a0 = 11) (k4 : q_K g a4 = 14) (r : Int32 × dp) (hr : D_L_since N g a0 x1 x2 x3 a4 δ = some r) {P : Option Value → hp → Prop} {X : String → hp → Prop} (hP : P (some (.int r.1)) (g, r.2)) : CalH hh_since l D cy m_L_since d 2 12 [.ref a0, .int x1, .int x2, .int x3, .ref a4] (g, δ) P X := by
  unfold D_L_since at hr
  obtain ⟨⟨qa, qd⟩, hq, h2⟩ := Option.bind_eq_some_iff.mp hr
  refine CalH.of (by decide +kernel) (Nat.le_of_ble_eq_true rfl) hl ?_
  refine h_aload 4 (μ := m_L_since) (pc := 0) dL_since_0 rfl ?_
  refine h_iconst (v := 0) (μ := m_L_since) (pc := 2) dL_since_2 (by decide) ?_
  refine h_aload_n 0 0 (μ := m_L_since) (pc := 3) dL_since_3 rfl rfl ?_
  refine h_iload_n 1 1 (μ := m_L_since) (pc := 4) dL_since_4 rfl rfl ?_
  refine h_iload_n 2 2 (μ := m_L_since) (pc := 5) dL_since_5 rfl rfl ?_
  refine h_iload_n 3 3 (μ := m_L_since) (pc := 6) dL_since_6 rfl rfl ?_
  refine h_callV (As := [.int x1, .int x2, .int x3]) (rest := [.int 0, .ref a4]) (rc' := 0) (rs' := 0) (μ := m_L_since) (pc := 7) dL_since_7 cv_L_72 rfl k0 (by decide) rfl (Nat.le_of_ble_eq_true rfl) (d' := d - 1) (by omega) (by decide) (by decide) (c_X11_since (N := N) wt hl (d := d - 1) (by omega) k0 (qa, qd) hq _ _ ?_)
  cases qa with
  | inl v =>
    dsimp only at h2
    by_cases hz : q_N g a4 ≤ 0
    · rw [if_pos hz] at h2; cases h2
    · rw [if_neg hz] at h2
      cases h2
      refine h_i2l (μ := m_L_since) (pc := 10) dL_since_10 ?_
      refine h_last (μ := m_L_since) (pc := 11) dL_since_11 k4 (vp_n (by rintro (z | z); exact absurd z (by decide); exact hz z)) ?_
      refine h_goto 23 (μ := m_L_since) (pc := 12) dL_since_12 (by decide) ?_
      refine h_iconst (v := 0) (μ := m_L_since) (pc := 23) dL_since_23 (by decide) ?_
      exact h_iret (μ := m_L_since) (pc := 24) dL_since_24 rfl rfl hP
  | inr n =>
    dsimp only at h2
    by_cases n0 : n = 0
    · subst n0
      rw [if_pos rfl] at h2
      cases h2
      refine emk_x 0 rfl (ctc.mk' [] ⟨0, 12, 15, 25⟩ [⟨0, 12, 19, 13⟩] (exn 0) rfl ?_ (by decide) (by decide) lk_25 ca_0 (fun q => ?_))
      · intro z hz; cases hz
      · refine h_astore [(5, .ref q), (0, .ref a0), (1, .int x1), (2, .int x2), (3, .int x3), (4, .ref a4)] (μ := m_L_since) (pc := 15) dL_since_15 (by decide) rfl ?_
        refine h_iconst (v := 1) (μ := m_L_since) (pc := 17) dL_since_17 (by decide) ?_
        exact h_iret (μ := m_L_since) (pc := 18) dL_since_18 rfl rfl hP
    · rw [if_neg n0] at h2
      by_cases n1 : n = 1
      · subst n1
        rw [if_pos rfl] at h2
        cases h2
      · rw [if_neg n1] at h2
        have hn : exn 2 = exn n := by unfold exn; rw [if_neg n0, if_neg n1]; rfl
        cases h2
        refine emk_x 2 hn (ctc.mk' [⟨0, 12, 15, 25⟩] ⟨0, 12, 19, 13⟩ [] (exn 2) rfl ?_ (by decide) (by decide) lk_13 ca_2 (fun q => ?_))
        · intro z hz
          · cases List.mem_singleton.mp hz; exact Or.inr ⟨by decide, exn 0, lk_25, (by decide +kernel)⟩
        · refine h_astore [(5, .ref q), (0, .ref a0), (1, .int x1), (2, .int x2), (3, .int x3), (4, .ref a4)] (μ := m_L_since) (pc := 19) dL_since_19 (by decide) rfl ?_
          refine h_iconst (v := 2) (μ := m_L_since) (pc := 21) dL_since_21 (by decide) ?_
          exact h_iret (μ := m_L_since) (pc := 22) dL_since_22 rfl rfl hP
theorem ch_184 : clH hh_since RL 184 m_L_since 5 := ⟨T_5 183 rfl rfl, T_5 184 rfl rfl, T_1 0 rfl rfl, T_5 185 rfl rfl, ⟨nh_RL.1, nh_RL.2, ar_L_since⟩, by decide⟩
def hh_room : List (Nat × Nat × Nat × Nat) := [(0, 10, 13, 25), (0, 10, 17, 13)]
def D_L_room (N : Nat) (g : gp) (a0 : Nat) (x1 : Int32) (x2 : Int32) (a3 : Nat) (δ : dp) : Option (Int32 × dp) := (D_X11_room N g a0 x1 x2 δ).bind fun r => match r.1 with
  | .inl v => if q_N g a3 ≤ 0 then none else some (0, s_J r.2 a3 0 v.toInt64)
  | .inr n => if n = 0 then some (1, r.2) else if n = 1 then none else some (2, r.2)
set_option maxHeartbeats 4000000 in
theorem c_L_room {l : Launch} {D : va_G} {cy : Nat → ClassId} {N d : Nat} {g : gp} (wt : WT g) (hl : l.stackTraces = false) (hd : 12 ≤ d) {a0 : Nat} {x1 : Int32} {x2 : Int32} {a3 : Nat} {δ : dp} (k0 : q_K g a0 = 11) (k3 : q_K g a3 = 14) (r : Int32 × dp) (hr : D_L_room N g a0 x1 x2 a3 δ = some r) {P : Option Value → hp → Prop} {X : String → hp → Prop} (hP : P (some (.int r.1)) (g, r.2)) : CalH hh_room l D cy m_L_room d 2 12 [.ref a0, .int x1, .int x2, .ref a3] (g, δ) P X := by
  unfold D_L_room at hr
  obtain ⟨⟨qa, qd⟩, hq, h2⟩ := Option.bind_eq_some_iff.mp hr
  refine CalH.of (by decide +kernel) (Nat.le_of_ble_eq_true rfl) hl ?_
  refine h_aload_n 3 3 (μ := m_L_room) (pc := 0) dL_room_0 rfl rfl ?_
  refine h_iconst (v := 0) (μ := m_L_room) (pc := 1) dL_room_1 (by decide) ?_
  refine h_aload_n 0 0 (μ := m_L_room) (pc := 2) dL_room_2 rfl rfl ?_
  refine h_iload_n 1 1 (μ := m_L_room) (pc := 3) dL_room_3 rfl rfl ?_
  refine h_iload_n 2 2 (μ := m_L_room) (pc := 4) dL_room_4 rfl rfl ?_
  refine h_callV (As := [.int x1, .int x2]) (rest := [.int 0, .ref a3]) (rc' := 0) (rs' := 0) (μ := m_L_room) (pc := 5) dL_room_5 cv_L_75 rfl k0 (by decide) rfl (Nat.le_of_ble_eq_true rfl) (d' := d - 1) (by omega) (by decide) (by decide) (c_X11_room (N := N) wt hl (d := d - 1) (by omega) k0 (qa, qd) hq _ _ ?_)
  cases qa with
  | inl v =>
    dsimp only at h2
    by_cases hz : q_N g a3 ≤ 0
    · rw [if_pos hz] at h2; cases h2
    · rw [if_neg hz] at h2
      cases h2
      refine h_i2l (μ := m_L_room) (pc := 8) dL_room_8 ?_
      refine h_last (μ := m_L_room) (pc := 9) dL_room_9 k3 (vp_n (by rintro (z | z); exact absurd z (by decide); exact hz z)) ?_
      refine h_goto 21 (μ := m_L_room) (pc := 10) dL_room_10 (by decide) ?_
      refine h_iconst (v := 0) (μ := m_L_room) (pc := 21) dL_room_21 (by decide) ?_
      exact h_iret (μ := m_L_room) (pc := 22) dL_room_22 rfl rfl hP
  | inr n =>
    dsimp only at h2
    by_cases n0 : n = 0
    · subst n0
      rw [if_pos rfl] at h2
      cases h2
      refine emk_x 0 rfl (ctc.mk' [] ⟨0, 10, 13, 25⟩ [⟨0, 10, 17, 13⟩] (exn 0) rfl ?_ (by decide) (by decide) lk_25 ca_0 (fun q => ?_))
      · intro z hz; cases hz
      · refine h_astore [(4, .ref q), (0, .ref a0), (1, .int x1), (2, .int x2), (3, .ref a3)] (μ := m_L_room) (pc := 13) dL_room_13 (by decide) rfl ?_
        refine h_iconst (v := 1) (μ := m_L_room) (pc := 15) dL_room_15 (by decide) ?_
        exact h_iret (μ := m_L_room) (pc := 16) dL_room_16 rfl rfl hP
    · rw [if_neg n0] at h2
      by_cases n1 : n = 1
      · subst n1
        rw [if_pos rfl] at h2
        cases h2
      · rw [if_neg n1] at h2
        have hn : exn 2 = exn n := by unfold exn; rw [if_neg n0, if_neg n1]; rfl
        cases h2
        refine emk_x 2 hn (ctc.mk' [⟨0, 10, 13, 25⟩] ⟨0, 10, 17, 13⟩ [] (exn 2) rfl ?_ (by decide) (by decide) lk_13 ca_2 (fun q => ?_))
        · intro z hz
          · cases List.mem_singleton.mp hz; exact Or.inr ⟨by decide, exn 0, lk_25, (by decide +kernel)⟩
        · refine h_astore [(4, .ref q), (0, .ref a0), (1, .int x1), (2, .int x2), (3, .ref a3)] (μ := m_L_room) (pc := 17) dL_room_17 (by decide) rfl ?_
          refine h_iconst (v := 2) (μ := m_L_room) (pc := 19) dL_room_19 (by decide) ?_
          exact h_iret (μ := m_L_room) (pc := 20) dL_room_20 rfl rfl hP
theorem ch_187 : clH hh_room RL 187 m_L_room 4 := ⟨T_5 194 rfl rfl, T_5 195 rfl rfl, T_1 0 rfl rfl, T_5 196 rfl rfl, ⟨nh_RL.1, nh_RL.2, ar_L_room⟩, by decide⟩
def hh_joins : List (Nat × Nat × Nat × Nat) := [(0, 12, 15, 25), (0, 12, 19, 13)]
def D_L_joins (N : Nat) (g : gp) (a0 : Nat) (x1 : Int32) (x2 : Int32) (x3 : Int32) (a4 : Nat) (δ : dp) : Option (Int32 × dp) := (D_X11_joins N g a0 x1 x2 x3 δ).bind fun r => match r.1 with
  | .inl v => if q_N g a4 ≤ 0 then none else some (0, s_J r.2 a4 0 v.toInt64)
  | .inr n => if n = 0 then some (1, r.2) else if n = 1 then none else some (2, r.2)
set_option maxHeartbeats 4000000 in
theorem c_L_joins {l : Launch} {D : va_G} {cy : Nat → ClassId} {N d : Nat} {g : gp} (wt : WT g) (hl : l.stackTraces = false) (hd : 12 ≤ d) {a0 : Nat} {x1 : Int32} {x2 : Int32} {x3 : Int32} {a4 : Nat} {δ : dp} (k0 : q_K g a0 = 11) (k4 : q_K g a4 = 14) (r : Int32 × dp) (hr : D_L_joins N g a0 x1 x2 x3 a4 δ = some r) {P : Option Value → hp → Prop} {X : String → hp → Prop} (hP : P (some (.int r.1)) (g, r.2)) : CalH hh_joins l D cy m_L_joins d 3 18 [.ref a0, .int x1, .int x2, .int x3, .ref a4] (g, δ) P X := by
  unfold D_L_joins at hr
  obtain ⟨⟨qa, qd⟩, hq, h2⟩ := Option.bind_eq_some_iff.mp hr
  refine CalH.of (by decide +kernel) (Nat.le_of_ble_eq_true rfl) hl ?_
  refine h_aload 4 (μ := m_L_joins) (pc := 0) dL_joins_0 rfl ?_
  refine h_iconst (v := 0) (μ := m_L_joins) (pc := 2) dL_joins_2 (by decide) ?_
  refine h_aload_n 0 0 (μ := m_L_joins) (pc := 3) dL_joins_3 rfl rfl ?_
  refine h_iload_n 1 1 (μ := m_L_joins) (pc := 4) dL_joins_4 rfl rfl ?_
  refine h_iload_n 2 2 (μ := m_L_joins) (pc := 5) dL_joins_5 rfl rfl ?_
  refine h_iload_n 3 3 (μ := m_L_joins) (pc := 6) dL_joins_6 rfl rfl ?_
  refine h_callV (As := [.int x1, .int x2, .int x3]) (rest := [.int 0, .ref a4]) (rc' := 0) (rs' := 0) (μ := m_L_joins) (pc := 7) dL_joins_7 cv_L_78 rfl k0 (by decide) rfl (Nat.le_of_ble_eq_true rfl) (d' := d - 1) (by omega) (by decide) (by decide) (c_X11_joins (N := N) wt hl (d := d - 1) (by omega) k0 (qa, qd) hq _ _ ?_)
  cases qa with
  | inl v =>
    dsimp only at h2
    by_cases hz : q_N g a4 ≤ 0
    · rw [if_pos hz] at h2; cases h2
    · rw [if_neg hz] at h2
      cases h2
      refine h_i2l (μ := m_L_joins) (pc := 10) dL_joins_10 ?_
      refine h_last (μ := m_L_joins) (pc := 11) dL_joins_11 k4 (vp_n (by rintro (z | z); exact absurd z (by decide); exact hz z)) ?_
      refine h_goto 23 (μ := m_L_joins) (pc := 12) dL_joins_12 (by decide) ?_
      refine h_iconst (v := 0) (μ := m_L_joins) (pc := 23) dL_joins_23 (by decide) ?_
      exact h_iret (μ := m_L_joins) (pc := 24) dL_joins_24 rfl rfl hP
  | inr n =>
    dsimp only at h2
    by_cases n0 : n = 0
    · subst n0
      rw [if_pos rfl] at h2
      cases h2
      refine emk_x 0 rfl (ctc.mk' [] ⟨0, 12, 15, 25⟩ [⟨0, 12, 19, 13⟩] (exn 0) rfl ?_ (by decide) (by decide) lk_25 ca_0 (fun q => ?_))
      · intro z hz; cases hz
      · refine h_astore [(5, .ref q), (0, .ref a0), (1, .int x1), (2, .int x2), (3, .int x3), (4, .ref a4)] (μ := m_L_joins) (pc := 15) dL_joins_15 (by decide) rfl ?_
        refine h_iconst (v := 1) (μ := m_L_joins) (pc := 17) dL_joins_17 (by decide) ?_
        exact h_iret (μ := m_L_joins) (pc := 18) dL_joins_18 rfl rfl hP
    · rw [if_neg n0] at h2
      by_cases n1 : n = 1
      · subst n1
        rw [if_pos rfl] at h2
        cases h2
      · rw [if_neg n1] at h2
        have hn : exn 2 = exn n := by unfold exn; rw [if_neg n0, if_neg n1]; rfl
        cases h2
        refine emk_x 2 hn (ctc.mk' [⟨0, 12, 15, 25⟩] ⟨0, 12, 19, 13⟩ [] (exn 2) rfl ?_ (by decide) (by decide) lk_13 ca_2 (fun q => ?_))
        · intro z hz
          · cases List.mem_singleton.mp hz; exact Or.inr ⟨by decide, exn 0, lk_25, (by decide +kernel)⟩
        · refine h_astore [(5, .ref q), (0, .ref a0), (1, .int x1), (2, .int x2), (3, .int x3), (4, .ref a4)] (μ := m_L_joins) (pc := 19) dL_joins_19 (by decide) rfl ?_
          refine h_iconst (v := 2) (μ := m_L_joins) (pc := 21) dL_joins_21 (by decide) ?_
          exact h_iret (μ := m_L_joins) (pc := 22) dL_joins_22 rfl rfl hP
theorem ch_190 : clH hh_joins RL 190 m_L_joins 5 := ⟨T_5 205 rfl rfl, T_5 206 rfl rfl, T_1 0 rfl rfl, T_5 207 rfl rfl, ⟨nh_RL.1, nh_RL.2, ar_L_joins⟩, by decide⟩
def hh_runs : List (Nat × Nat × Nat × Nat) := [(0, 10, 13, 25)]
def D_L_runs (N : Nat) (g : gp) (a0 : Nat) (x1 : Int32) (x2 : Int32) (a3 : Nat) (δ : dp) : Option (Int32 × dp) := (D_X11_runs N g a0 x1 x2 δ).bind fun r => match r.1 with
  | .inl v => if q_N g a3 ≤ 0 then none else some (0, s_J r.2 a3 0 v.toInt64)
  | .inr n => if n = 0 then some (1, r.2) else if n = 1 then none else none
set_option maxHeartbeats 4000000 in
theorem c_L_runs {l : Launch} {D : va_G} {cy : Nat → ClassId} {N d : Nat} {g : gp} (wt : WT g) (hl : l.stackTraces = false) (hd : 12 ≤ d) {a0 : Nat} {x1 : Int32} {x2 : Int32} {a3 : Nat} {δ : dp} (k0 : q_K g a0 = 11) (k3 : q_K g a3 = 14) (r : Int32 × dp) (hr : D_L_runs N g a0 x1 x2 a3 δ = some r) {P : Option Value → hp → Prop} {X : String → hp → Prop} (hP : P (some (.int r.1)) (g, r.2)) : CalH hh_runs l D cy m_L_runs d 2 12 [.ref a0, .int x1, .int x2, .ref a3] (g, δ) P X := by
  unfold D_L_runs at hr
  obtain ⟨⟨qa, qd⟩, hq, h2⟩ := Option.bind_eq_some_iff.mp hr
  refine CalH.of (by decide +kernel) (Nat.le_of_ble_eq_true rfl) hl ?_
  refine h_aload_n 3 3 (μ := m_L_runs) (pc := 0) dL_runs_0 rfl rfl ?_
  refine h_iconst (v := 0) (μ := m_L_runs) (pc := 1) dL_runs_1 (by decide) ?_
  refine h_aload_n 0 0 (μ := m_L_runs) (pc := 2) dL_runs_2 rfl rfl ?_
  refine h_iload_n 1 1 (μ := m_L_runs) (pc := 3) dL_runs_3 rfl rfl ?_
  refine h_iload_n 2 2 (μ := m_L_runs) (pc := 4) dL_runs_4 rfl rfl ?_
  refine h_callV (As := [.int x1, .int x2]) (rest := [.int 0, .ref a3]) (rc' := 0) (rs' := 0) (μ := m_L_runs) (pc := 5) dL_runs_5 cv_L_81 rfl k0 (by decide) rfl (Nat.le_of_ble_eq_true rfl) (d' := d - 1) (by omega) (by decide) (by decide) (c_X11_runs (N := N) wt hl (d := d - 1) (by omega) k0 (qa, qd) hq _ _ ?_)
  cases qa with
  | inl v =>
    dsimp only at h2
    by_cases hz : q_N g a3 ≤ 0
    · rw [if_pos hz] at h2; cases h2
    · rw [if_neg hz] at h2
      cases h2
      refine h_i2l (μ := m_L_runs) (pc := 8) dL_runs_8 ?_
      refine h_last (μ := m_L_runs) (pc := 9) dL_runs_9 k3 (vp_n (by rintro (z | z); exact absurd z (by decide); exact hz z)) ?_
      refine h_goto 17 (μ := m_L_runs) (pc := 10) dL_runs_10 (by decide) ?_
      refine h_iconst (v := 0) (μ := m_L_runs) (pc := 17) dL_runs_17 (by decide) ?_
      exact h_iret (μ := m_L_runs) (pc := 18) dL_runs_18 rfl rfl hP
  | inr n =>
    dsimp only at h2
    by_cases n0 : n = 0
    · subst n0
      rw [if_pos rfl] at h2
      cases h2
      refine emk_x 0 rfl (ctc.mk' [] ⟨0, 10, 13, 25⟩ [] (exn 0) rfl ?_ (by decide) (by decide) lk_25 ca_0 (fun q => ?_))
      · intro z hz; cases hz
      · refine h_astore [(4, .ref q), (0, .ref a0), (1, .int x1), (2, .int x2), (3, .ref a3)] (μ := m_L_runs) (pc := 13) dL_runs_13 (by decide) rfl ?_
        refine h_iconst (v := 1) (μ := m_L_runs) (pc := 15) dL_runs_15 (by decide) ?_
        exact h_iret (μ := m_L_runs) (pc := 16) dL_runs_16 rfl rfl hP
    · rw [if_neg n0] at h2
      by_cases n1 : n = 1
      · subst n1
        rw [if_pos rfl] at h2
        cases h2
      · rw [if_neg n1] at h2
        cases h2
theorem ch_193 : clH hh_runs RL 193 m_L_runs 4 := ⟨T_5 226 rfl rfl, T_5 227 rfl rfl, T_1 0 rfl rfl, T_5 228 rfl rfl, ⟨nh_RL.1, nh_RL.2, ar_L_runs⟩, by decide⟩
def hh_steals : List (Nat × Nat × Nat × Nat) := [(0, 14, 17, 25), (0, 14, 21, 87), (0, 14, 25, 13)]
def D_L_steals (N : Nat) (g : gp) (a0 : Nat) (x1 : Int32) (x2 : Int32) (x3 : Int32) (x4 : Int32) (a5 : Nat) (δ : dp) : Option (Int32 × dp) := (D_X11_steals N g a0 x1 x2 x3 x4 δ).bind fun r => match r.1 with
  | .inl v => if q_N g a5 ≤ 0 then none else some (0, s_J r.2 a5 0 v.toInt64)
  | .inr n => if n = 0 then some (1, r.2) else if n = 1 then some (2, r.2) else some (3, r.2)
set_option maxHeartbeats 4000000 in
theorem c_L_steals {l : Launch} {D : va_G} {cy : Nat → ClassId} {N d : Nat} {g : gp} (wt : WT g) (hl : l.stackTraces = false) (hd : 12 ≤ d) {a0 : Nat} {x1 : Int32} {x2 : Int32} {x3 : Int32} {x4 : Int32} {a5 : Nat} {δ : dp} (k0 : q_K g a0 = 11) (k5 : q_K g a5 = 14) (r : Int32 × dp) (hr : D_L_steals N g a0 x1 x2 x3 x4 a5 δ = some r) {P : Option Value → hp → Prop} {X : String → hp → Prop} (hP : P (some (.int r.1)) (g, r.2)) : CalH hh_steals l D cy m_L_steals d 3 18 [.ref a0, .int x1, .int x2, .int x3, .int x4, .ref a5] (g, δ) P X := by
  unfold D_L_steals at hr
  obtain ⟨⟨qa, qd⟩, hq, h2⟩ := Option.bind_eq_some_iff.mp hr
  refine CalH.of (by decide +kernel) (Nat.le_of_ble_eq_true rfl) hl ?_
  refine h_aload 5 (μ := m_L_steals) (pc := 0) dL_steals_0 rfl ?_
  refine h_iconst (v := 0) (μ := m_L_steals) (pc := 2) dL_steals_2 (by decide) ?_
  refine h_aload_n 0 0 (μ := m_L_steals) (pc := 3) dL_steals_3 rfl rfl ?_
  refine h_iload_n 1 1 (μ := m_L_steals) (pc := 4) dL_steals_4 rfl rfl ?_
  refine h_iload_n 2 2 (μ := m_L_steals) (pc := 5) dL_steals_5 rfl rfl ?_
  refine h_iload_n 3 3 (μ := m_L_steals) (pc := 6) dL_steals_6 rfl rfl ?_
  refine h_iload 4 (μ := m_L_steals) (pc := 7) dL_steals_7 rfl ?_
  refine h_callV (As := [.int x1, .int x2, .int x3, .int x4]) (rest := [.int 0, .ref a5]) (rc' := 0) (rs' := 0) (μ := m_L_steals) (pc := 9) dL_steals_9 cv_L_84 rfl k0 (by decide) rfl (Nat.le_of_ble_eq_true rfl) (d' := d - 1) (by omega) (by decide) (by decide) (c_X11_steals (N := N) wt hl (d := d - 1) (by omega) k0 (qa, qd) hq _ _ ?_)
  cases qa with
  | inl v =>
    dsimp only at h2
    by_cases hz : q_N g a5 ≤ 0
    · rw [if_pos hz] at h2; cases h2
    · rw [if_neg hz] at h2
      cases h2
      refine h_i2l (μ := m_L_steals) (pc := 12) dL_steals_12 ?_
      refine h_last (μ := m_L_steals) (pc := 13) dL_steals_13 k5 (vp_n (by rintro (z | z); exact absurd z (by decide); exact hz z)) ?_
      refine h_goto 29 (μ := m_L_steals) (pc := 14) dL_steals_14 (by decide) ?_
      refine h_iconst (v := 0) (μ := m_L_steals) (pc := 29) dL_steals_29 (by decide) ?_
      exact h_iret (μ := m_L_steals) (pc := 30) dL_steals_30 rfl rfl hP
  | inr n =>
    dsimp only at h2
    by_cases n0 : n = 0
    · subst n0
      rw [if_pos rfl] at h2
      cases h2
      refine emk_x 0 rfl (ctc.mk' [] ⟨0, 14, 17, 25⟩ [⟨0, 14, 21, 87⟩, ⟨0, 14, 25, 13⟩] (exn 0) rfl ?_ (by decide) (by decide) lk_25 ca_0 (fun q => ?_))
      · intro z hz; cases hz
      · refine h_astore [(6, .ref q), (0, .ref a0), (1, .int x1), (2, .int x2), (3, .int x3), (4, .int x4), (5, .ref a5)] (μ := m_L_steals) (pc := 17) dL_steals_17 (by decide) rfl ?_
        refine h_iconst (v := 1) (μ := m_L_steals) (pc := 19) dL_steals_19 (by decide) ?_
        exact h_iret (μ := m_L_steals) (pc := 20) dL_steals_20 rfl rfl hP
    · rw [if_neg n0] at h2
      by_cases n1 : n = 1
      · subst n1
        rw [if_pos rfl] at h2
        cases h2
        refine emk_x 1 rfl (ctc.mk' [⟨0, 14, 17, 25⟩] ⟨0, 14, 21, 87⟩ [⟨0, 14, 25, 13⟩] (exn 1) rfl ?_ (by decide) (by decide) lk_87 ca_1 (fun q => ?_))
        · intro z hz
          · cases List.mem_singleton.mp hz; exact Or.inr ⟨by decide, exn 0, lk_25, (by decide +kernel)⟩
        · refine h_astore [(6, .ref q), (0, .ref a0), (1, .int x1), (2, .int x2), (3, .int x3), (4, .int x4), (5, .ref a5)] (μ := m_L_steals) (pc := 21) dL_steals_21 (by decide) rfl ?_
          refine h_iconst (v := 2) (μ := m_L_steals) (pc := 23) dL_steals_23 (by decide) ?_
          exact h_iret (μ := m_L_steals) (pc := 24) dL_steals_24 rfl rfl hP
      · rw [if_neg n1] at h2
        have hn : exn 2 = exn n := by unfold exn; rw [if_neg n0, if_neg n1]; rfl
        cases h2
        refine emk_x 2 hn (ctc.mk' [⟨0, 14, 17, 25⟩, ⟨0, 14, 21, 87⟩] ⟨0, 14, 25, 13⟩ [] (exn 2) rfl ?_ (by decide) (by decide) lk_13 ca_2 (fun q => ?_))
        · intro z hz
          rcases List.mem_cons.mp hz with rfl | hz
          · exact Or.inr ⟨by decide, exn 0, lk_25, (by decide +kernel)⟩
          · cases List.mem_singleton.mp hz; exact Or.inr ⟨by decide, exn 1, lk_87, (by decide +kernel)⟩
        · refine h_astore [(6, .ref q), (0, .ref a0), (1, .int x1), (2, .int x2), (3, .int x3), (4, .int x4), (5, .ref a5)] (μ := m_L_steals) (pc := 25) dL_steals_25 (by decide) rfl ?_
          refine h_iconst (v := 3) (μ := m_L_steals) (pc := 27) dL_steals_27 (by decide) ?_
          exact h_iret (μ := m_L_steals) (pc := 28) dL_steals_28 rfl rfl hP
theorem ch_196 : clH hh_steals RL 196 m_L_steals 6 := ⟨T_6 0 rfl rfl, T_6 1 rfl rfl, T_1 0 rfl rfl, T_6 2 rfl rfl, ⟨nh_RL.1, nh_RL.2, ar_L_steals⟩, by decide⟩
def hh_reached : List (Nat × Nat × Nat × Nat) := [(0, 9, 12, 13)]
def D_L_reached (N : Nat) (g : gp) (a0 : Nat) (x1 : Int32) (a2 : Nat) (δ : dp) : Option (Int32 × dp) := (D_X11_reached N g a0 x1 δ).bind fun r => match r.1 with
  | .inl v => if q_N g a2 ≤ 0 then none else some (0, s_J r.2 a2 0 v.toInt64)
  | .inr n => if n = 0 then none else if n = 1 then none else some (1, r.2)
set_option maxHeartbeats 4000000 in
theorem c_L_reached {l : Launch} {D : va_G} {cy : Nat → ClassId} {N d : Nat} {g : gp} (wt : WT g) (hl : l.stackTraces = false) (hd : 26 ≤ d) {a0 : Nat} {x1 : Int32} {a2 : Nat} {δ : dp} (k0 : q_K g a0 = 11) (k2 : q_K g a2 = 14) (r : Int32 × dp) (hr : D_L_reached N g a0 x1 a2 δ = some r) {P : Option Value → hp → Prop} {X : String → hp → Prop} (hP : P (some (.int r.1)) (g, r.2)) : CalH hh_reached l D cy m_L_reached d 1 6 [.ref a0, .int x1, .ref a2] (g, δ) P X := by
  unfold D_L_reached at hr
  obtain ⟨⟨qa, qd⟩, hq, h2⟩ := Option.bind_eq_some_iff.mp hr
  refine CalH.of (by decide +kernel) (Nat.le_of_ble_eq_true rfl) hl ?_
  refine h_aload_n 2 2 (μ := m_L_reached) (pc := 0) dL_reached_0 rfl rfl ?_
  refine h_iconst (v := 0) (μ := m_L_reached) (pc := 1) dL_reached_1 (by decide) ?_
  refine h_aload_n 0 0 (μ := m_L_reached) (pc := 2) dL_reached_2 rfl rfl ?_
  refine h_iload_n 1 1 (μ := m_L_reached) (pc := 3) dL_reached_3 rfl rfl ?_
  refine h_callV (As := [.int x1]) (rest := [.int 0, .ref a2]) (rc' := 0) (rs' := 0) (μ := m_L_reached) (pc := 4) dL_reached_4 cv_L_89 rfl k0 (by decide) rfl (Nat.le_of_ble_eq_true rfl) (d' := d - 1) (by omega) (by decide) (by decide) (c_X11_reached (N := N) wt hl (d := d - 1) (by omega) k0 (qa, qd) hq _ _ ?_)
  cases qa with
  | inl v =>
    dsimp only at h2
    by_cases hz : q_N g a2 ≤ 0
    · rw [if_pos hz] at h2; cases h2
    · rw [if_neg hz] at h2
      cases h2
      refine h_i2l (μ := m_L_reached) (pc := 7) dL_reached_7 ?_
      refine h_last (μ := m_L_reached) (pc := 8) dL_reached_8 k2 (vp_n (by rintro (z | z); exact absurd z (by decide); exact hz z)) ?_
      refine h_goto 15 (μ := m_L_reached) (pc := 9) dL_reached_9 (by decide) ?_
      refine h_iconst (v := 0) (μ := m_L_reached) (pc := 15) dL_reached_15 (by decide) ?_
      exact h_iret (μ := m_L_reached) (pc := 16) dL_reached_16 rfl rfl hP
  | inr n =>
    dsimp only at h2
    by_cases n0 : n = 0
    · subst n0
      rw [if_pos rfl] at h2
      cases h2
    · rw [if_neg n0] at h2
      by_cases n1 : n = 1
      · subst n1
        rw [if_pos rfl] at h2
        cases h2
      · rw [if_neg n1] at h2
        have hn : exn 2 = exn n := by unfold exn; rw [if_neg n0, if_neg n1]; rfl
        cases h2
        refine emk_x 2 hn (ctc.mk' [] ⟨0, 9, 12, 13⟩ [] (exn 2) rfl ?_ (by decide) (by decide) lk_13 ca_2 (fun q => ?_))
        · intro z hz; cases hz
        · refine h_astore_n [(3, .ref q), (0, .ref a0), (1, .int x1), (2, .ref a2)] (μ := m_L_reached) (pc := 12) dL_reached_12 rfl (by decide) rfl ?_
          refine h_iconst (v := 1) (μ := m_L_reached) (pc := 13) dL_reached_13 (by decide) ?_
          exact h_iret (μ := m_L_reached) (pc := 14) dL_reached_14 rfl rfl hP
theorem ch_199 : clH hh_reached RL 199 m_L_reached 3 := ⟨T_6 79 rfl rfl, T_6 80 rfl rfl, T_1 0 rfl rfl, T_6 81 rfl rfl, ⟨nh_RL.1, nh_RL.2, ar_L_reached⟩, by decide⟩
def hh_row : List (Nat × Nat × Nat × Nat) := [(0, 9, 12, 13)]
def D_L_row (N : Nat) (g : gp) (a0 : Nat) (x1 : Int32) (a2 : Nat) (δ : dp) : Option (Int32 × dp) := (D_X11_row N g a0 x1 δ).bind fun r => match r.1 with
  | .inl v => if q_N g a2 ≤ 0 then none else some (0, s_J r.2 a2 0 v.toInt64)
  | .inr n => if n = 0 then none else if n = 1 then none else some (1, r.2)
set_option maxHeartbeats 4000000 in
theorem c_L_row {l : Launch} {D : va_G} {cy : Nat → ClassId} {N d : Nat} {g : gp} (wt : WT g) (hl : l.stackTraces = false) (hd : 67 ≤ d) {a0 : Nat} {x1 : Int32} {a2 : Nat} {δ : dp} (k0 : q_K g a0 = 11) (k2 : q_K g a2 = 14) (r : Int32 × dp) (hr : D_L_row N g a0 x1 a2 δ = some r) {P : Option Value → hp → Prop} {X : String → hp → Prop} (hP : P (some (.int r.1)) (g, r.2)) : CalH hh_row l D cy m_L_row d 1 6 [.ref a0, .int x1, .ref a2] (g, δ) P X := by
  unfold D_L_row at hr
  obtain ⟨⟨qa, qd⟩, hq, h2⟩ := Option.bind_eq_some_iff.mp hr
  refine CalH.of (by decide +kernel) (Nat.le_of_ble_eq_true rfl) hl ?_
  refine h_aload_n 2 2 (μ := m_L_row) (pc := 0) dL_row_0 rfl rfl ?_
  refine h_iconst (v := 0) (μ := m_L_row) (pc := 1) dL_row_1 (by decide) ?_
  refine h_aload_n 0 0 (μ := m_L_row) (pc := 2) dL_row_2 rfl rfl ?_
  refine h_iload_n 1 1 (μ := m_L_row) (pc := 3) dL_row_3 rfl rfl ?_
  refine h_callV (As := [.int x1]) (rest := [.int 0, .ref a2]) (rc' := 0) (rs' := 0) (μ := m_L_row) (pc := 4) dL_row_4 cv_L_92 rfl k0 (by decide) rfl (Nat.le_of_ble_eq_true rfl) (d' := d - 1) (by omega) (by decide) (by decide) (c_X11_row (N := N) wt hl (d := d - 1) (by omega) k0 (qa, qd) hq _ _ ?_)
  cases qa with
  | inl v =>
    dsimp only at h2
    by_cases hz : q_N g a2 ≤ 0
    · rw [if_pos hz] at h2; cases h2
    · rw [if_neg hz] at h2
      cases h2
      refine h_i2l (μ := m_L_row) (pc := 7) dL_row_7 ?_
      refine h_last (μ := m_L_row) (pc := 8) dL_row_8 k2 (vp_n (by rintro (z | z); exact absurd z (by decide); exact hz z)) ?_
      refine h_goto 15 (μ := m_L_row) (pc := 9) dL_row_9 (by decide) ?_
      refine h_iconst (v := 0) (μ := m_L_row) (pc := 15) dL_row_15 (by decide) ?_
      exact h_iret (μ := m_L_row) (pc := 16) dL_row_16 rfl rfl hP
  | inr n =>
    dsimp only at h2
    by_cases n0 : n = 0
    · subst n0
      rw [if_pos rfl] at h2
      cases h2
    · rw [if_neg n0] at h2
      by_cases n1 : n = 1
      · subst n1
        rw [if_pos rfl] at h2
        cases h2
      · rw [if_neg n1] at h2
        have hn : exn 2 = exn n := by unfold exn; rw [if_neg n0, if_neg n1]; rfl
        cases h2
        refine emk_x 2 hn (ctc.mk' [] ⟨0, 9, 12, 13⟩ [] (exn 2) rfl ?_ (by decide) (by decide) lk_13 ca_2 (fun q => ?_))
        · intro z hz; cases hz
        · refine h_astore_n [(3, .ref q), (0, .ref a0), (1, .int x1), (2, .ref a2)] (μ := m_L_row) (pc := 12) dL_row_12 rfl (by decide) rfl ?_
          refine h_iconst (v := 1) (μ := m_L_row) (pc := 13) dL_row_13 (by decide) ?_
          exact h_iret (μ := m_L_row) (pc := 14) dL_row_14 rfl rfl hP
theorem ch_202 : clH hh_row RL 202 m_L_row 3 := ⟨T_6 86 rfl rfl, T_6 87 rfl rfl, T_1 0 rfl rfl, T_6 88 rfl rfl, ⟨nh_RL.1, nh_RL.2, ar_L_row⟩, by decide⟩
def hh_rowCall : List (Nat × Nat × Nat × Nat) := [(0, 10, 13, 13)]
def D_L_rowCall (N : Nat) (g : gp) (a0 : Nat) (x1 : Int32) (x2 : Int32) (a3 : Nat) (δ : dp) : Option (Int32 × dp) := (D_X11_rowCall N g a0 x1 x2 δ).bind fun r => match r.1 with
  | .inl v => if q_N g a3 ≤ 0 then none else some (0, s_J r.2 a3 0 v.toInt64)
  | .inr n => if n = 0 then none else if n = 1 then none else some (1, r.2)
set_option maxHeartbeats 4000000 in
theorem c_L_rowCall {l : Launch} {D : va_G} {cy : Nat → ClassId} {N d : Nat} {g : gp} (wt : WT g) (hl : l.stackTraces = false) (hd : 67 ≤ d) {a0 : Nat} {x1 : Int32} {x2 : Int32} {a3 : Nat} {δ : dp} (k0 : q_K g a0 = 11) (k3 : q_K g a3 = 14) (r : Int32 × dp) (hr : D_L_rowCall N g a0 x1 x2 a3 δ = some r) {P : Option Value → hp → Prop} {X : String → hp → Prop} (hP : P (some (.int r.1)) (g, r.2)) : CalH hh_rowCall l D cy m_L_rowCall d 1 6 [.ref a0, .int x1, .int x2, .ref a3] (g, δ) P X := by
  unfold D_L_rowCall at hr
  obtain ⟨⟨qa, qd⟩, hq, h2⟩ := Option.bind_eq_some_iff.mp hr
  refine CalH.of (by decide +kernel) (Nat.le_of_ble_eq_true rfl) hl ?_
  refine h_aload_n 3 3 (μ := m_L_rowCall) (pc := 0) dL_rowCall_0 rfl rfl ?_
  refine h_iconst (v := 0) (μ := m_L_rowCall) (pc := 1) dL_rowCall_1 (by decide) ?_
  refine h_aload_n 0 0 (μ := m_L_rowCall) (pc := 2) dL_rowCall_2 rfl rfl ?_
  refine h_iload_n 1 1 (μ := m_L_rowCall) (pc := 3) dL_rowCall_3 rfl rfl ?_
  refine h_iload_n 2 2 (μ := m_L_rowCall) (pc := 4) dL_rowCall_4 rfl rfl ?_
  refine h_callV (As := [.int x1, .int x2]) (rest := [.int 0, .ref a3]) (rc' := 0) (rs' := 0) (μ := m_L_rowCall) (pc := 5) dL_rowCall_5 cv_L_95 rfl k0 (by decide) rfl (Nat.le_of_ble_eq_true rfl) (d' := d - 1) (by omega) (by decide) (by decide) (c_X11_rowCall (N := N) wt hl (d := d - 1) (by omega) k0 (qa, qd) hq _ _ ?_)
  cases qa with
  | inl v =>
    dsimp only at h2
    by_cases hz : q_N g a3 ≤ 0
    · rw [if_pos hz] at h2; cases h2
    · rw [if_neg hz] at h2
      cases h2
      refine h_i2l (μ := m_L_rowCall) (pc := 8) dL_rowCall_8 ?_
      refine h_last (μ := m_L_rowCall) (pc := 9) dL_rowCall_9 k3 (vp_n (by rintro (z | z); exact absurd z (by decide); exact hz z)) ?_
      refine h_goto 17 (μ := m_L_rowCall) (pc := 10) dL_rowCall_10 (by decide) ?_
      refine h_iconst (v := 0) (μ := m_L_rowCall) (pc := 17) dL_rowCall_17 (by decide) ?_
      exact h_iret (μ := m_L_rowCall) (pc := 18) dL_rowCall_18 rfl rfl hP
  | inr n =>
    dsimp only at h2
    by_cases n0 : n = 0
    · subst n0
      rw [if_pos rfl] at h2
      cases h2
    · rw [if_neg n0] at h2
      by_cases n1 : n = 1
      · subst n1
        rw [if_pos rfl] at h2
        cases h2
      · rw [if_neg n1] at h2
        have hn : exn 2 = exn n := by unfold exn; rw [if_neg n0, if_neg n1]; rfl
        cases h2
        refine emk_x 2 hn (ctc.mk' [] ⟨0, 10, 13, 13⟩ [] (exn 2) rfl ?_ (by decide) (by decide) lk_13 ca_2 (fun q => ?_))
        · intro z hz; cases hz
        · refine h_astore [(4, .ref q), (0, .ref a0), (1, .int x1), (2, .int x2), (3, .ref a3)] (μ := m_L_rowCall) (pc := 13) dL_rowCall_13 (by decide) rfl ?_
          refine h_iconst (v := 1) (μ := m_L_rowCall) (pc := 15) dL_rowCall_15 (by decide) ?_
          exact h_iret (μ := m_L_rowCall) (pc := 16) dL_rowCall_16 rfl rfl hP
theorem ch_205 : clH hh_rowCall RL 205 m_L_rowCall 4 := ⟨T_6 124 rfl rfl, T_6 125 rfl rfl, T_1 0 rfl rfl, T_6 126 rfl rfl, ⟨nh_RL.1, nh_RL.2, ar_L_rowCall⟩, by decide⟩
def hh_split : List (Nat × Nat × Nat × Nat) := [(0, 12, 15, 25), (0, 12, 19, 13)]
def D_L_split (N : Nat) (g : gp) (a0 : Nat) (x1 : Int32) (x2 : Int32) (x3 : Int32) (a4 : Nat) (δ : dp) : Option (Int32 × dp) := (D_X11_split N g a0 x1 x2 x3 δ).bind fun r => match r.1 with
  | .inl v => if q_N g a4 ≤ 0 then none else some (0, s_J r.2 a4 0 v.toInt64)
  | .inr n => if n = 0 then some (1, r.2) else if n = 1 then none else some (2, r.2)
set_option maxHeartbeats 4000000 in
theorem c_L_split {l : Launch} {D : va_G} {cy : Nat → ClassId} {N d : Nat} {g : gp} (wt : WT g) (hl : l.stackTraces = false) (hd : 12 ≤ d) {a0 : Nat} {x1 : Int32} {x2 : Int32} {x3 : Int32} {a4 : Nat} {δ : dp} (k0 : q_K g a0 = 11) (k4 : q_K g a4 = 14) (r : Int32 × dp) (hr : D_L_split N g a0 x1 x2 x3 a4 δ = some r) {P : Option Value → hp → Prop} {X : String → hp → Prop} (hP : P (some (.int r.1)) (g, r.2)) : CalH hh_split l D cy m_L_split d 3 18 [.ref a0, .int x1, .int x2, .int x3, .ref a4] (g, δ) P X := by
  unfold D_L_split at hr
  obtain ⟨⟨qa, qd⟩, hq, h2⟩ := Option.bind_eq_some_iff.mp hr
  refine CalH.of (by decide +kernel) (Nat.le_of_ble_eq_true rfl) hl ?_
  refine h_aload 4 (μ := m_L_split) (pc := 0) dL_split_0 rfl ?_
  refine h_iconst (v := 0) (μ := m_L_split) (pc := 2) dL_split_2 (by decide) ?_
  refine h_aload_n 0 0 (μ := m_L_split) (pc := 3) dL_split_3 rfl rfl ?_
  refine h_iload_n 1 1 (μ := m_L_split) (pc := 4) dL_split_4 rfl rfl ?_
  refine h_iload_n 2 2 (μ := m_L_split) (pc := 5) dL_split_5 rfl rfl ?_
  refine h_iload_n 3 3 (μ := m_L_split) (pc := 6) dL_split_6 rfl rfl ?_
  refine h_callV (As := [.int x1, .int x2, .int x3]) (rest := [.int 0, .ref a4]) (rc' := 0) (rs' := 0) (μ := m_L_split) (pc := 7) dL_split_7 cv_L_98 rfl k0 (by decide) rfl (Nat.le_of_ble_eq_true rfl) (d' := d - 1) (by omega) (by decide) (by decide) (c_X11_split (N := N) wt hl (d := d - 1) (by omega) k0 (qa, qd) hq _ _ ?_)
  cases qa with
  | inl v =>
    dsimp only at h2
    by_cases hz : q_N g a4 ≤ 0
    · rw [if_pos hz] at h2; cases h2
    · rw [if_neg hz] at h2
      cases h2
      refine h_i2l (μ := m_L_split) (pc := 10) dL_split_10 ?_
      refine h_last (μ := m_L_split) (pc := 11) dL_split_11 k4 (vp_n (by rintro (z | z); exact absurd z (by decide); exact hz z)) ?_
      refine h_goto 23 (μ := m_L_split) (pc := 12) dL_split_12 (by decide) ?_
      refine h_iconst (v := 0) (μ := m_L_split) (pc := 23) dL_split_23 (by decide) ?_
      exact h_iret (μ := m_L_split) (pc := 24) dL_split_24 rfl rfl hP
  | inr n =>
    dsimp only at h2
    by_cases n0 : n = 0
    · subst n0
      rw [if_pos rfl] at h2
      cases h2
      refine emk_x 0 rfl (ctc.mk' [] ⟨0, 12, 15, 25⟩ [⟨0, 12, 19, 13⟩] (exn 0) rfl ?_ (by decide) (by decide) lk_25 ca_0 (fun q => ?_))
      · intro z hz; cases hz
      · refine h_astore [(5, .ref q), (0, .ref a0), (1, .int x1), (2, .int x2), (3, .int x3), (4, .ref a4)] (μ := m_L_split) (pc := 15) dL_split_15 (by decide) rfl ?_
        refine h_iconst (v := 1) (μ := m_L_split) (pc := 17) dL_split_17 (by decide) ?_
        exact h_iret (μ := m_L_split) (pc := 18) dL_split_18 rfl rfl hP
    · rw [if_neg n0] at h2
      by_cases n1 : n = 1
      · subst n1
        rw [if_pos rfl] at h2
        cases h2
      · rw [if_neg n1] at h2
        have hn : exn 2 = exn n := by unfold exn; rw [if_neg n0, if_neg n1]; rfl
        cases h2
        refine emk_x 2 hn (ctc.mk' [⟨0, 12, 15, 25⟩] ⟨0, 12, 19, 13⟩ [] (exn 2) rfl ?_ (by decide) (by decide) lk_13 ca_2 (fun q => ?_))
        · intro z hz
          · cases List.mem_singleton.mp hz; exact Or.inr ⟨by decide, exn 0, lk_25, (by decide +kernel)⟩
        · refine h_astore [(5, .ref q), (0, .ref a0), (1, .int x1), (2, .int x2), (3, .int x3), (4, .ref a4)] (μ := m_L_split) (pc := 19) dL_split_19 (by decide) rfl ?_
          refine h_iconst (v := 2) (μ := m_L_split) (pc := 21) dL_split_21 (by decide) ?_
          exact h_iret (μ := m_L_split) (pc := 22) dL_split_22 rfl rfl hP
theorem ch_208 : clH hh_split RL 208 m_L_split 5 := ⟨T_6 135 rfl rfl, T_6 136 rfl rfl, T_1 0 rfl rfl, T_6 137 rfl rfl, ⟨nh_RL.1, nh_RL.2, ar_L_split⟩, by decide⟩
def hh_gap : List (Nat × Nat × Nat × Nat) := [(0, 10, 13, 25), (0, 10, 17, 13)]
def D_L_gap (N : Nat) (g : gp) (a0 : Nat) (x1 : Int32) (x2 : Int32) (a3 : Nat) (δ : dp) : Option (Int32 × dp) := (D_X11_gap N g a0 x1 x2 δ).bind fun r => match r.1 with
  | .inl v => if q_N g a3 ≤ 0 then none else some (0, s_J r.2 a3 0 v.toInt64)
  | .inr n => if n = 0 then some (1, r.2) else if n = 1 then none else some (2, r.2)
set_option maxHeartbeats 4000000 in
theorem c_L_gap {l : Launch} {D : va_G} {cy : Nat → ClassId} {N d : Nat} {g : gp} (wt : WT g) (hl : l.stackTraces = false) (hd : 12 ≤ d) {a0 : Nat} {x1 : Int32} {x2 : Int32} {a3 : Nat} {δ : dp} (k0 : q_K g a0 = 11) (k3 : q_K g a3 = 14) (r : Int32 × dp) (hr : D_L_gap N g a0 x1 x2 a3 δ = some r) {P : Option Value → hp → Prop} {X : String → hp → Prop} (hP : P (some (.int r.1)) (g, r.2)) : CalH hh_gap l D cy m_L_gap d 2 12 [.ref a0, .int x1, .int x2, .ref a3] (g, δ) P X := by
  unfold D_L_gap at hr
  obtain ⟨⟨qa, qd⟩, hq, h2⟩ := Option.bind_eq_some_iff.mp hr
  refine CalH.of (by decide +kernel) (Nat.le_of_ble_eq_true rfl) hl ?_
  refine h_aload_n 3 3 (μ := m_L_gap) (pc := 0) dL_gap_0 rfl rfl ?_
  refine h_iconst (v := 0) (μ := m_L_gap) (pc := 1) dL_gap_1 (by decide) ?_
  refine h_aload_n 0 0 (μ := m_L_gap) (pc := 2) dL_gap_2 rfl rfl ?_
  refine h_iload_n 1 1 (μ := m_L_gap) (pc := 3) dL_gap_3 rfl rfl ?_
  refine h_iload_n 2 2 (μ := m_L_gap) (pc := 4) dL_gap_4 rfl rfl ?_
  refine h_callV (As := [.int x1, .int x2]) (rest := [.int 0, .ref a3]) (rc' := 0) (rs' := 0) (μ := m_L_gap) (pc := 5) dL_gap_5 cv_L_101 rfl k0 (by decide) rfl (Nat.le_of_ble_eq_true rfl) (d' := d - 1) (by omega) (by decide) (by decide) (c_X11_gap (N := N) wt hl (d := d - 1) (by omega) k0 (qa, qd) hq _ _ ?_)
  cases qa with
  | inl v =>
    dsimp only at h2
    by_cases hz : q_N g a3 ≤ 0
    · rw [if_pos hz] at h2; cases h2
    · rw [if_neg hz] at h2
      cases h2
      refine h_i2l (μ := m_L_gap) (pc := 8) dL_gap_8 ?_
      refine h_last (μ := m_L_gap) (pc := 9) dL_gap_9 k3 (vp_n (by rintro (z | z); exact absurd z (by decide); exact hz z)) ?_
      refine h_goto 21 (μ := m_L_gap) (pc := 10) dL_gap_10 (by decide) ?_
      refine h_iconst (v := 0) (μ := m_L_gap) (pc := 21) dL_gap_21 (by decide) ?_
      exact h_iret (μ := m_L_gap) (pc := 22) dL_gap_22 rfl rfl hP
  | inr n =>
    dsimp only at h2
    by_cases n0 : n = 0
    · subst n0
      rw [if_pos rfl] at h2
      cases h2
      refine emk_x 0 rfl (ctc.mk' [] ⟨0, 10, 13, 25⟩ [⟨0, 10, 17, 13⟩] (exn 0) rfl ?_ (by decide) (by decide) lk_25 ca_0 (fun q => ?_))
      · intro z hz; cases hz
      · refine h_astore [(4, .ref q), (0, .ref a0), (1, .int x1), (2, .int x2), (3, .ref a3)] (μ := m_L_gap) (pc := 13) dL_gap_13 (by decide) rfl ?_
        refine h_iconst (v := 1) (μ := m_L_gap) (pc := 15) dL_gap_15 (by decide) ?_
        exact h_iret (μ := m_L_gap) (pc := 16) dL_gap_16 rfl rfl hP
    · rw [if_neg n0] at h2
      by_cases n1 : n = 1
      · subst n1
        rw [if_pos rfl] at h2
        cases h2
      · rw [if_neg n1] at h2
        have hn : exn 2 = exn n := by unfold exn; rw [if_neg n0, if_neg n1]; rfl
        cases h2
        refine emk_x 2 hn (ctc.mk' [⟨0, 10, 13, 25⟩] ⟨0, 10, 17, 13⟩ [] (exn 2) rfl ?_ (by decide) (by decide) lk_13 ca_2 (fun q => ?_))
        · intro z hz
          · cases List.mem_singleton.mp hz; exact Or.inr ⟨by decide, exn 0, lk_25, (by decide +kernel)⟩
        · refine h_astore [(4, .ref q), (0, .ref a0), (1, .int x1), (2, .int x2), (3, .ref a3)] (μ := m_L_gap) (pc := 17) dL_gap_17 (by decide) rfl ?_
          refine h_iconst (v := 2) (μ := m_L_gap) (pc := 19) dL_gap_19 (by decide) ?_
          exact h_iret (μ := m_L_gap) (pc := 20) dL_gap_20 rfl rfl hP
theorem ch_211 : clH hh_gap RL 211 m_L_gap 4 := ⟨T_6 143 rfl rfl, T_6 144 rfl rfl, T_1 0 rfl rfl, T_6 145 rfl rfl, ⟨nh_RL.1, nh_RL.2, ar_L_gap⟩, by decide⟩
def hh_seeds : List (Nat × Nat × Nat × Nat) := [(0, 16, 19, 25), (0, 16, 23, 87), (0, 16, 27, 13)]
def D_L_seeds (N : Nat) (g : gp) (a0 : Nat) (x1 : Int32) (x2 : Int32) (x3 : Int32) (x4 : Int32) (x5 : Int32) (a6 : Nat) (δ : dp) : Option (Int32 × dp) := (D_X11_seeds N g a0 x1 x2 x3 x4 x5 δ).bind fun r => match r.1 with
  | .inl v => if q_N g a6 ≤ 0 then none else some (0, s_J r.2 a6 0 v.toInt64)
  | .inr n => if n = 0 then some (1, r.2) else if n = 1 then some (2, r.2) else some (3, r.2)
set_option maxHeartbeats 4000000 in
theorem c_L_seeds {l : Launch} {D : va_G} {cy : Nat → ClassId} {N d : Nat} {g : gp} (wt : WT g) (hl : l.stackTraces = false) (hd : 12 ≤ d) {a0 : Nat} {x1 : Int32} {x2 : Int32} {x3 : Int32} {x4 : Int32} {x5 : Int32} {a6 : Nat} {δ : dp} (k0 : q_K g a0 = 11) (k6 : q_K g a6 = 14) (r : Int32 × dp) (hr : D_L_seeds N g a0 x1 x2 x3 x4 x5 a6 δ = some r) {P : Option Value → hp → Prop} {X : String → hp → Prop} (hP : P (some (.int r.1)) (g, r.2)) : CalH hh_seeds l D cy m_L_seeds d 3 18 [.ref a0, .int x1, .int x2, .int x3, .int x4, .int x5, .ref a6] (g, δ) P X := by
  unfold D_L_seeds at hr
  obtain ⟨⟨qa, qd⟩, hq, h2⟩ := Option.bind_eq_some_iff.mp hr
  refine CalH.of (by decide +kernel) (Nat.le_of_ble_eq_true rfl) hl ?_
  refine h_aload 6 (μ := m_L_seeds) (pc := 0) dL_seeds_0 rfl ?_
  refine h_iconst (v := 0) (μ := m_L_seeds) (pc := 2) dL_seeds_2 (by decide) ?_
  refine h_aload_n 0 0 (μ := m_L_seeds) (pc := 3) dL_seeds_3 rfl rfl ?_
  refine h_iload_n 1 1 (μ := m_L_seeds) (pc := 4) dL_seeds_4 rfl rfl ?_
  refine h_iload_n 2 2 (μ := m_L_seeds) (pc := 5) dL_seeds_5 rfl rfl ?_
  refine h_iload_n 3 3 (μ := m_L_seeds) (pc := 6) dL_seeds_6 rfl rfl ?_
  refine h_iload 4 (μ := m_L_seeds) (pc := 7) dL_seeds_7 rfl ?_
  refine h_iload 5 (μ := m_L_seeds) (pc := 9) dL_seeds_9 rfl ?_
  refine h_callV (As := [.int x1, .int x2, .int x3, .int x4, .int x5]) (rest := [.int 0, .ref a6]) (rc' := 0) (rs' := 0) (μ := m_L_seeds) (pc := 11) dL_seeds_11 cv_L_104 rfl k0 (by decide) rfl (Nat.le_of_ble_eq_true rfl) (d' := d - 1) (by omega) (by decide) (by decide) (c_X11_seeds (N := N) wt hl (d := d - 1) (by omega) k0 (qa, qd) hq _ _ ?_)
  cases qa with
  | inl v =>
    dsimp only at h2
    by_cases hz : q_N g a6 ≤ 0
    · rw [if_pos hz] at h2; cases h2
    · rw [if_neg hz] at h2
      cases h2
      refine h_i2l (μ := m_L_seeds) (pc := 14) dL_seeds_14 ?_
      refine h_last (μ := m_L_seeds) (pc := 15) dL_seeds_15 k6 (vp_n (by rintro (z | z); exact absurd z (by decide); exact hz z)) ?_
      refine h_goto 31 (μ := m_L_seeds) (pc := 16) dL_seeds_16 (by decide) ?_
      refine h_iconst (v := 0) (μ := m_L_seeds) (pc := 31) dL_seeds_31 (by decide) ?_
      exact h_iret (μ := m_L_seeds) (pc := 32) dL_seeds_32 rfl rfl hP
  | inr n =>
    dsimp only at h2
    by_cases n0 : n = 0
    · subst n0
      rw [if_pos rfl] at h2
      cases h2
      refine emk_x 0 rfl (ctc.mk' [] ⟨0, 16, 19, 25⟩ [⟨0, 16, 23, 87⟩, ⟨0, 16, 27, 13⟩] (exn 0) rfl ?_ (by decide) (by decide) lk_25 ca_0 (fun q => ?_))
      · intro z hz; cases hz
      · refine h_astore [(7, .ref q), (0, .ref a0), (1, .int x1), (2, .int x2), (3, .int x3), (4, .int x4), (5, .int x5), (6, .ref a6)] (μ := m_L_seeds) (pc := 19) dL_seeds_19 (by decide) rfl ?_
        refine h_iconst (v := 1) (μ := m_L_seeds) (pc := 21) dL_seeds_21 (by decide) ?_
        exact h_iret (μ := m_L_seeds) (pc := 22) dL_seeds_22 rfl rfl hP
    · rw [if_neg n0] at h2
      by_cases n1 : n = 1
      · subst n1
        rw [if_pos rfl] at h2
        cases h2
        refine emk_x 1 rfl (ctc.mk' [⟨0, 16, 19, 25⟩] ⟨0, 16, 23, 87⟩ [⟨0, 16, 27, 13⟩] (exn 1) rfl ?_ (by decide) (by decide) lk_87 ca_1 (fun q => ?_))
        · intro z hz
          · cases List.mem_singleton.mp hz; exact Or.inr ⟨by decide, exn 0, lk_25, (by decide +kernel)⟩
        · refine h_astore [(7, .ref q), (0, .ref a0), (1, .int x1), (2, .int x2), (3, .int x3), (4, .int x4), (5, .int x5), (6, .ref a6)] (μ := m_L_seeds) (pc := 23) dL_seeds_23 (by decide) rfl ?_
          refine h_iconst (v := 2) (μ := m_L_seeds) (pc := 25) dL_seeds_25 (by decide) ?_
          exact h_iret (μ := m_L_seeds) (pc := 26) dL_seeds_26 rfl rfl hP
      · rw [if_neg n1] at h2
        have hn : exn 2 = exn n := by unfold exn; rw [if_neg n0, if_neg n1]; rfl
        cases h2
        refine emk_x 2 hn (ctc.mk' [⟨0, 16, 19, 25⟩, ⟨0, 16, 23, 87⟩] ⟨0, 16, 27, 13⟩ [] (exn 2) rfl ?_ (by decide) (by decide) lk_13 ca_2 (fun q => ?_))
        · intro z hz
          rcases List.mem_cons.mp hz with rfl | hz
          · exact Or.inr ⟨by decide, exn 0, lk_25, (by decide +kernel)⟩
          · cases List.mem_singleton.mp hz; exact Or.inr ⟨by decide, exn 1, lk_87, (by decide +kernel)⟩
        · refine h_astore [(7, .ref q), (0, .ref a0), (1, .int x1), (2, .int x2), (3, .int x3), (4, .int x4), (5, .int x5), (6, .ref a6)] (μ := m_L_seeds) (pc := 27) dL_seeds_27 (by decide) rfl ?_
          refine h_iconst (v := 3) (μ := m_L_seeds) (pc := 29) dL_seeds_29 (by decide) ?_
          exact h_iret (μ := m_L_seeds) (pc := 30) dL_seeds_30 rfl rfl hP
theorem ch_214 : clH hh_seeds RL 214 m_L_seeds 7 := ⟨T_6 154 rfl rfl, T_6 155 rfl rfl, T_1 0 rfl rfl, T_6 156 rfl rfl, ⟨nh_RL.1, nh_RL.2, ar_L_seeds⟩, by decide⟩
