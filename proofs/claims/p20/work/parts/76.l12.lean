/-! a small negative number divided -/
theorem ti_dvn {c : Int32} {n : Nat} (hc : c.toInt = n) (hn : 0 < n) (a : Int32) : a.toInt < 0 → -(n : Int) < a.toInt → (a / c).toInt = 0 := by
  intro h1 h2
  rw [Int32.toInt_div_of_ne_right a c (fun e => by rw [e] at hc; rw [show (-1 : Int32).toInt = -1 from rfl] at hc; omega), hc]
  rw [show a.toInt = -(-a.toInt) by omega, Int.neg_tdiv, Int.tdiv_eq_ediv_of_nonneg (by omega), Int.ediv_eq_zero_of_lt (by omega) (by omega)]
  rfl
