theorem zrem2 {x y : Int32} {d : Nat} (hx : zn x < 2 ^ 31) (hy : y = nI d) (h1 : 1 ≤ d) (h2 : d < 2 ^ 31) : x - x / y * y = nI (zn x % d) := by
  have h := pk_rem (a := zn x) (d := d) hx h1 h2
  rw [← zn_eq] at h
  rw [hy]
  exact h
