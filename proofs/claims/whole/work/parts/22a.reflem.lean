theorem ck_ok {c : Nat → Nat → Int32} {y : Int32} (h : ¬ 0 < (m_X7_checked c y).1) : ¬ y = 0 := fun q => h (by
  unfold m_X7_checked
  rw [if_pos q]; show (0 : Int32) < 1; decide)
theorem ck_le {c : Nat → Nat → Int32} {y : Int32} (h : (m_X7_checked c y).1 ≤ 0) : ¬ y = 0 := fun q => absurd h (by
  unfold m_X7_checked
  rw [if_pos q]; show ¬ (1 : Int32) ≤ 0; decide)
theorem in_ok {x lo hi : Int32} (h : ¬ r_X7_in x lo hi = 0) : ¬ x < lo ∧ ¬ hi < x := by
  unfold r_X7_in at h
  by_cases h1 : x < lo
  · rw [if_pos h1] at h; exact absurd rfl h
  · refine ⟨h1, fun q => ?_⟩
    rw [if_neg h1, if_pos q] at h; exact absurd rfl h
theorem zadl {K x : Int32} {k : Nat} (hK : K = nI k) : K + x = nI (k + zn x) := by rw [← nI_add, ← zn_eq, hK]
theorem zn_pred {x : Int32} (h : 1 ≤ zn x) : x - 1 = nI (zn x - 1) := by rw [← nI_pre h, ← zn_eq]
theorem nd_ok {c : Nat → Nat → Int32} (hg : zG c) {x : Int32} (h : ¬ m_X7_isNode c x = 0) : zn x < 10 := by
  have hc : zn (c 111 13) ≤ 10 := hg 111 13
  unfold m_X7_isNode at h
  obtain ⟨h1, h2⟩ := in_ok h
  rcases Nat.eq_zero_or_pos (zn (c 111 13)) with h0 | h0
  · have e : c 111 13 = 0 := zn_inj h0
    rw [e] at h2
    exfalso
    obtain ⟨j, hj, rfl⟩ := nI_of h1
    exact h2 (Int32.lt_of_lt_of_le (show (0 : Int32) - 1 < 0 by decide) ((z_le (a := 0) rfl rfl (by omega) hj).mpr (by omega)))
  · rw [zn_pred h0] at h2
    have := (zn_rng (a := 0) rfl rfl (by omega) (by decide) h1 h2).2
    omega
theorem vo_ok {x : Int32} (h : ¬ r_X7_isVoice x = 0) : zn x < 4 := by
  have := (zn_rng (a := 0) (b' := 3) rfl rfl (by decide) (by decide) (in_ok h).1 (in_ok h).2).2
  omega
