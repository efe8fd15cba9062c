/-! more static facts, by gen.py -/
theorem cp_X3_25 : cpy RX3 25 := ⟨T_3 27 rfl rfl, T_3 29 rfl rfl, T_3 28 rfl rfl, T_1 24 rfl rfl⟩
