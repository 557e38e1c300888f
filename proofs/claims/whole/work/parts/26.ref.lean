/-- what the row of what sounds must hold for its divisions: of each voice -/
def zLv (r : Nat → Int32) : Prop := ∀ v, v < 4 → (r (640 + 16 * v + 0) = 1 → r (640 + 16 * v + 1) = 1 → ¬ r (640 + 16 * v + 8) = 0) ∧ zn (r (640 + 16 * v + 10)) < 2 ^ 30 ∧ zn (r (640 + 16 * v + 5)) ≤ 200
theorem zLv.z1 {c : Nat → Nat → Int32} (h : zLv (c 112)) {v : Nat} (hv : v < 4) : ¬ m_X7_isReleased c v = 0 → ¬ m_X7_at c v 8 = 0 := by
  intro h1
  unfold m_X7_isReleased at h1
  by_cases q1 : m_X7_plays c v = 0
  · rw [if_pos q1] at h1; exact absurd rfl h1
  · rw [if_neg q1] at h1
    by_cases q2 : m_X7_at c v 1 = 1
    · unfold m_X7_plays at q1
      by_cases q3 : m_X7_at c v 0 = 1
      · exact (h v hv).1 q3 q2
      · rw [if_neg q3] at q1; exact absurd rfl q1
    · rw [if_neg q2] at h1; exact absurd rfl h1
theorem zLv.z2 {c : Nat → Nat → Int32} (h : zLv (c 112)) {v : Nat} (hv : v < 4) : ¬ m_X7_at c v 5 ≤ m_X7_at c v 10 → ¬ m_X7_at c v 5 = 0 := fun h1 h2 => h1 (by
  rw [h2]
  have h3 : zn (m_X7_at c v 10) < 2 ^ 30 := (h v hv).2.1
  exact (z_le (a := 0) rfl (zn_eq _) (by omega) (by omega)).mpr (by omega))
theorem zLv.z3 {c : Nat → Nat → Int32} (h : zLv (c 112)) {v : Nat} (hv : v < 4) : m_X7_at c v 5 ≤ m_X7_at c v 10 → ¬ m_X7_at c v 6 ≤ m_X7_at c v 10 - m_X7_at c v 5 → ¬ m_X7_at c v 6 = 0 := fun h0 h1 h2 => h1 (by
  rw [h2]
  have h3 : zn (m_X7_at c v 10) < 2 ^ 30 := (h v hv).2.1
  have h4 : zn (m_X7_at c v 5) ≤ 200 := (h v hv).2.2
  have h5 := (z_le (zn_eq _) (zn_eq _) (by omega) (by omega)).mp h0
  have e : m_X7_at c v 10 - m_X7_at c v 5 = nI (zn (m_X7_at c v 10) - zn (m_X7_at c v 5)) := by rw [← nI_sub h5, ← zn_eq, ← zn_eq]
  rw [e]
  exact (z_le (a := 0) rfl rfl (by omega) (by omega)).mpr (by omega))