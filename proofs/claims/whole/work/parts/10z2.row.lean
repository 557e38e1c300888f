theorem z_row {E : zE} {b r : Nat} (h : r = 108 ∨ r = 109) (x : Nat → Int32) (w : Int64) (e : Nat) : zcell E b r x w e = some (.inl (E.2 1, 64, .inl x)) := by rcases h with rfl | rfl <;> rfl
theorem z_row_lt {r : Nat} (h : r = 108 ∨ r = 109) : r < 126 := by omega
theorem z_row_e {r : Nat} (h : r = 108 ∨ r = 109) : zenv r = false := by rcases h with rfl | rfl <;> rfl
