/-- what the row of what sounds must hold for its divisions: of each voice -/
def zLv (T : Nat) (r : Nat → Int32) : Prop := ∀ v, v < 4 → (r (640 + 16 * v + 0) = 1 → r (640 + 16 * v + 1) = 1 → ¬ r (640 + 16 * v + 8) = 0) ∧ zn (r (640 + 16 * v + 10)) ≤ T ∧ zn (r (640 + 16 * v + 5)) ≤ 200
theorem zLv.z1 {T : Nat} {c : Nat → Nat → Int32} (h : zLv T (c 112)) (hT : T < 2 ^ 30) {v : Nat} (hv : v < 4) : ¬ m_X7_isReleased c v = 0 → ¬ m_X7_at c v 8 = 0 := by
  intro h1
  unfold m_X7_isReleased at h1
  by_cases q1 : m_X7_plays c v = 0
  · rw [if_pos q1] at h1; exact absurd rfl h1
  · rw [if_neg q1] at h1
    by_cases q2 : m_X7_at c v 1 = 1
    · unfold m_X7_plays at q1
      by_cases q3 : m_X7_at c v 0 = 1
      · exact (h v hv).1 q3 q2
      · rw [if_neg q3] at q1; exact absurd rfl q1
    · rw [if_neg q2] at h1; exact absurd rfl h1
theorem zLv.z2 {T : Nat} {c : Nat → Nat → Int32} (h : zLv T (c 112)) (hT : T < 2 ^ 30) {v : Nat} (hv : v < 4) : ¬ m_X7_at c v 5 ≤ m_X7_at c v 10 → ¬ m_X7_at c v 5 = 0 := fun h1 h2 => h1 (by
  rw [h2]
  have h3 : zn (m_X7_at c v 10) ≤ T := (h v hv).2.1
  exact (z_le (a := 0) rfl (zn_eq _) (by omega) (by omega)).mpr (by omega))
theorem zLv.z3 {T : Nat} {c : Nat → Nat → Int32} (h : zLv T (c 112)) (hT : T < 2 ^ 30) {v : Nat} (hv : v < 4) : m_X7_at c v 5 ≤ m_X7_at c v 10 → ¬ m_X7_at c v 6 ≤ m_X7_at c v 10 - m_X7_at c v 5 → ¬ m_X7_at c v 6 = 0 := fun h0 h1 h2 => h1 (by
  rw [h2]
  have h3 : zn (m_X7_at c v 10) ≤ T := (h v hv).2.1
  have h4 : zn (m_X7_at c v 5) ≤ 200 := (h v hv).2.2
  have h5 := (z_le (zn_eq _) (zn_eq _) (by omega) (by omega)).mp h0
  have e : m_X7_at c v 10 - m_X7_at c v 5 = nI (zn (m_X7_at c v 10) - zn (m_X7_at c v 5)) := by rw [← nI_sub h5, ← zn_eq, ← zn_eq]
  rw [e]
  exact (z_le (a := 0) rfl rfl (by omega) (by omega)).mpr (by omega))
theorem zlay_e {c : Nat → Nat → Int32} {u v k q : Nat} (x : Int32) (hk : k < 16) (hq : q < 16) (h : u ≠ v ∨ q ≠ k) : m_X7_lay c v k x 112 (640 + 16 * u + q) = c 112 (640 + 16 * u + q) := by
  unfold m_X7_lay
  rw [zup_at, if_neg (fun z => by omega)]
theorem zlay_s {c : Nat → Nat → Int32} {v k : Nat} (x : Int32) : m_X7_lay c v k x 112 (640 + 16 * v + k) = x := by
  unfold m_X7_lay
  rw [zup_s]
theorem zLv.lay {T : Nat} {c : Nat → Nat → Int32} (h : zLv T (c 112)) {v k : Nat} (x : Int32) (hk : k < 16) (h9 : k ≠ 0 ∧ k ≠ 1 ∧ k ≠ 5 ∧ k ≠ 8 ∧ k ≠ 10) : zLv T (m_X7_lay c v k x 112) := fun u hu => by
  rw [zlay_e x hk (by decide) (Or.inr (Ne.symm h9.1)), zlay_e x hk (by decide) (Or.inr (Ne.symm h9.2.1)), zlay_e x hk (by decide) (Or.inr (Ne.symm h9.2.2.1)), zlay_e x hk (by decide) (Or.inr (Ne.symm h9.2.2.2.1)), zlay_e x hk (by decide) (Or.inr (Ne.symm h9.2.2.2.2))]
  exact h u hu
theorem zLv.mono {T T' : Nat} {r : Nat → Int32} (h : zLv T r) (hT : T ≤ T') : zLv T' r := fun u hu => ⟨(h u hu).1, Nat.le_trans (h u hu).2.1 hT, (h u hu).2.2⟩
theorem zLv.off {T : Nat} {c : Nat → Nat → Int32} (h : zLv T (c 112)) {v : Nat} : zLv T (m_X7_lay c v 0 0 112) := fun u hu => by
  rw [zlay_e (q := 1) 0 (by decide) (by decide) (Or.inr (by decide)), zlay_e (q := 8) 0 (by decide) (by decide) (Or.inr (by decide)), zlay_e (q := 10) 0 (by decide) (by decide) (Or.inr (by decide)), zlay_e (q := 5) 0 (by decide) (by decide) (Or.inr (by decide))]
  refine ⟨fun q1 => ?_, (h u hu).2⟩
  by_cases e : u = v
  · subst e
    rw [zlay_s] at q1
    exact absurd q1 (by decide)
  · rw [zlay_e (q := 0) 0 (by decide) (by decide) (Or.inl e)] at q1
    exact (h u hu).1 q1
theorem zLv.had {T : Nat} {c : Nat → Nat → Int32} (h : zLv T (c 112)) {v : Nat} {x : Int32} (hx : zn x ≤ T) : zLv T (m_X7_lay c v 10 x 112) := fun u hu => by
  rw [zlay_e (q := 0) x (by decide) (by decide) (Or.inr (by decide)), zlay_e (q := 1) x (by decide) (by decide) (Or.inr (by decide)), zlay_e (q := 8) x (by decide) (by decide) (Or.inr (by decide)), zlay_e (q := 5) x (by decide) (by decide) (Or.inr (by decide))]
  refine ⟨(h u hu).1, ?_, (h u hu).2.2⟩
  by_cases e : u = v
  · subst e
    rw [zlay_s]; exact hx
  · rw [zlay_e (q := 10) x (by decide) (by decide) (Or.inl e)]
    exact (h u hu).2.1