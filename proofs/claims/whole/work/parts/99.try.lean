theorem zz_try : 1 + 1 = 2 := by
  have := @zs_copy
  have := @zt_kp
  have h2 := @z111
  rfl
