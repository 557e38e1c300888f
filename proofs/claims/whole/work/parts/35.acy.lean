/-- no circle without a delay: a rank of the nodes that goes up along the wires -/
def zAc (c : Nat → Nat → Int32) (n : Nat) : Prop := ∃ r : Nat → Nat, ∀ k, k < n → ¬ c 114 k = 2 → ∀ i, i < zn (c 120 k) → zn (c 118 (4 * k + i)) < n ∧ r (zn (c 118 (4 * k + i))) < r k
theorem zAc.congr {c c' : Nat → Nat → Int32} {n : Nat} (h : zAc c n) (h1 : c' 114 = c 114) (h2 : c' 118 = c 118) (h3 : c' 120 = c 120) : zAc c' n := by
  unfold zAc at *
  rw [h1, h2, h3]
  exact h
theorem cc_of {c : Nat → Nat → Int32} {t : Nat} (h0 : c 123 t = 0) (h : ¬ c 114 t = 2 → ∀ i, i < zn (c 120 t) → ¬ c 123 (zn (c 118 (4 * t + i))) = 0) : ¬ m_X7_canCome c t = 0 := by
  have g : ∀ (n i : Nat), i + n = zn (c 120 t) → g1_X7_canCome c t n i (fun _ => 1) = 1 := by
    intro n
    induction n with
    | zero => intro i _; rw [g1_X7_canCome]
    | succ n ih =>
      intro i hi
      rw [g1_X7_canCome]
      by_cases q : c 114 t = 2
      · rw [if_pos q]
      · rw [if_neg q, if_neg (h q i (by omega))]
        exact ih (i + 1) (by omega)
  unfold m_X7_canCome
  rw [if_pos h0, g _ 0 (by omega)]
  decide
theorem zAc.some {c : Nat → Nat → Int32} {n : Nat} (h : zAc c n) (hx : ∃ j, j < n ∧ c 123 j = 0) : ∃ j, j < n ∧ ¬ m_X7_canCome c j = 0 := by
  obtain ⟨r, hr⟩ := h
  have g : ∀ (m j : Nat), r j < m → j < n → c 123 j = 0 → ∃ j, j < n ∧ ¬ m_X7_canCome c j = 0 := by
    intro m
    induction m with
    | zero => intro j hj; exact absurd hj (Nat.not_lt_zero _)
    | succ m ih =>
      intro j hj hn h0
      by_cases q : m_X7_canCome c j = 0
      · by_cases q2 : ¬ c 114 j = 2 → ∀ i, i < zn (c 120 j) → ¬ c 123 (zn (c 118 (4 * j + i))) = 0
        · exact absurd q (cc_of h0 q2)
        · by_cases q3 : c 114 j = 2
          · exact absurd (fun z => absurd q3 z) q2
          · have q4 : ∃ i, i < zn (c 120 j) ∧ c 123 (zn (c 118 (4 * j + i))) = 0 := by
              apply Classical.byContradiction
              intro z
              exact q2 (fun _ i hi z2 => z ⟨i, hi, z2⟩)
            obtain ⟨i, hi, h1⟩ := q4
            have h2 := hr j hn q3 i hi
            exact ih _ (by omega) h2.1 h1
      · exact ⟨j, hn, q⟩
  obtain ⟨j, hj, h0⟩ := hx
  exact g (r j + 1) j (by omega) hj h0
/-- how many of the first places are set -/
def zct (f : Nat → Int32) : Nat → Nat
  | 0 => 0
  | n + 1 => zct f n + (if f n = 0 then 0 else 1)
theorem zct_le (f : Nat → Int32) (n : Nat) : zct f n ≤ n := by
  induction n with
  | zero => exact Nat.le_refl _
  | succ n ih => rw [zct]; split <;> omega
theorem zct_some {f : Nat → Int32} {n : Nat} (h : zct f n < n) : ∃ j, j < n ∧ f j = 0 := by
  induction n with
  | zero => exact absurd h (Nat.not_lt_zero _)
  | succ n ih =>
    rw [zct] at h
    by_cases q : f n = 0
    · exact ⟨n, by omega, q⟩
    · rw [if_neg q] at h
      obtain ⟨j, hj, h1⟩ := ih (by omega)
      exact ⟨j, by omega, h1⟩
theorem zct_zero {f : Nat → Int32} {n : Nat} (h : ∀ j, j < n → f j = 0) : zct f n = 0 := by
  induction n with
  | zero => rfl
  | succ n ih => rw [zct, ih (fun j hj => h j (by omega)), if_pos (h n (by omega))]
theorem zct_mono {f g : Nat → Int32} {n : Nat} (h : ∀ j, j < n → ¬ f j = 0 → ¬ g j = 0) : zct f n ≤ zct g n := by
  induction n with
  | zero => exact Nat.le_refl _
  | succ n ih =>
    have h1 := ih (fun j hj => h j (by omega))
    have h2 := h n (by omega)
    rw [zct, zct]
    by_cases q : f n = 0
    · rw [if_pos q]; omega
    · rw [if_neg q, if_neg (h2 q)]; omega
theorem zct_lt {f g : Nat → Int32} {n k : Nat} (h : ∀ j, j < n → ¬ f j = 0 → ¬ g j = 0) (hk : k < n) (h0 : f k = 0) (h1 : ¬ g k = 0) : zct f n + 1 ≤ zct g n := by
  induction n with
  | zero => exact absurd hk (Nat.not_lt_zero _)
  | succ n ih =>
    have h2 := h n (by omega)
    rw [zct, zct]
    rcases Nat.lt_succ_iff_lt_or_eq.mp hk with hk | hk
    · have h1 := ih (fun j hj => h j (by omega)) hk
      by_cases q : f n = 0
      · rw [if_pos q]; omega
      · rw [if_neg q, if_neg (h2 q)]; omega
    · subst hk
      have h3 := zct_mono (f := f) (g := g) (n := k) (fun j hj => h j (by omega))
      rw [if_pos h0, if_neg h1]; omega
theorem zct_up (c : Nat → Nat → Int32) (i k : Nat) (v : Int32) (n : Nat) : zct (zup c i k v i) n ≤ zct (c i) n + 1 := by
  have g : zct (zup c i k v i) n ≤ zct (c i) n + (if k < n then 1 else 0) := by
    induction n with
    | zero => exact Nat.zero_le _
    | succ n ih =>
      rw [zct, zct]
      by_cases q : k = n
      · subst q
        rw [if_neg (Nat.lt_irrefl _)] at ih
        rw [if_pos (Nat.lt_succ_self _)]
        split <;> split <;> omega
      · rw [zup_k _ _ (Ne.symm q)]
        by_cases q2 : k < n
        · rw [if_pos q2] at ih; rw [if_pos (show k < n + 1 by omega)]; omega
        · rw [if_neg q2] at ih; rw [if_neg (show ¬ k < n + 1 by omega)]; omega
  split at g <;> omega
theorem nd_lt {c : Nat → Nat → Int32} (hg : zG c) {x : Int32} (h : ¬ m_X7_isNode c x = 0) : zn x < zn (c 111 13) := by
  have hc : zn (c 111 13) ≤ 10 := hg 111 13
  unfold m_X7_isNode at h
  obtain ⟨h1, h2⟩ := in_ok h
  rcases Nat.eq_zero_or_pos (zn (c 111 13)) with h0 | h0
  · have e : c 111 13 = 0 := zn_inj h0
    rw [e] at h2
    exfalso
    obtain ⟨j, hj, rfl⟩ := nI_of h1
    exact h2 (Int32.lt_of_lt_of_le (show (0 : Int32) - 1 < 0 by decide) ((z_le (a := 0) rfl rfl (by omega) hj).mpr (by omega)))
  · rw [zn_pred h0] at h2
    have := (zn_rng (a := 0) rfl rfl (by omega) (by decide) h1 h2).2
    omega
