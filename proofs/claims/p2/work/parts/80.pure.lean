def pN : Nat := 10000000
theorem pure_PH (ad : List Nat) (h : hp) (x m o : Nat) (L : Lay TLf ad h) (hx : ad[0]? = some x) (hm : ad[99]? = some m) (ho : ad[127]? = some o) : ∃ Inv : Nat → dp → Prop, Inv 0 h.2 ∧ ∀ k δ, k < 64 → Inv k δ → ∀ (w : Int32) (a : Nat → Int32), ∃ δ', LwS pN h.1 x m o w a δ δ' ∧ Inv (k + 1) δ' := sorry
