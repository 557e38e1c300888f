/-! looking ahead -/
theorem zVp.scg {s s' e p : Nat → Int32} {m : Nat} (h : zVp s e p m) (hs : ∀ q, q ≤ 12 → q ≠ 5 → s' q = s q) : zVp s' e p m := by
  unfold zVp at *
  rw [hs 0 (by decide) (by decide), hs 1 (by decide) (by decide), hs 2 (by decide) (by decide), hs 3 (by decide) (by decide), hs 4 (by decide) (by decide), hs 6 (by decide) (by decide), hs 7 (by decide) (by decide), hs 8 (by decide) (by decide), hs 9 (by decide) (by decide), hs 10 (by decide) (by decide), hs 11 (by decide) (by decide), hs 12 (by decide) (by decide)]
  exact h
theorem vcopy_is (c : Nat → Nat → Int32) (en : Nat → Nat) (ea : Nat → Nat → Int32) (v : Nat) : (∀ x, x ≠ 70 + 3 + 2 * v → (m_X5_copyFrom c en ea v).1 x = c x) ∧ (∀ q, q ≤ 12 → q ≠ 5 → (m_X5_copyFrom c en ea v).1 (70 + 3 + 2 * v) q = c (34 + 3 + 2 * v) q) ∧ (m_X5_copyFrom c en ea v).2.2 = va_up ea (70 + 3 + 2 * v) (ea (34 + 3 + 2 * v)) := by
  unfold m_X5_copyFrom
  dsimp only
  refine ⟨fun x hx => funext fun q => ?_, fun q hq h5 => ?_, rfl⟩
  · simp only [zup_at]
    rw [if_neg (by omega), if_neg (by omega), if_neg (by omega), if_neg (by omega), if_neg (by omega), if_neg (by omega), if_neg (by omega), if_neg (by omega), if_neg (by omega), if_neg (by omega), if_neg (by omega), if_neg (by omega)]
  · have h : q = 0 ∨ q = 1 ∨ q = 2 ∨ q = 3 ∨ q = 4 ∨ q = 6 ∨ q = 7 ∨ q = 8 ∨ q = 9 ∨ q = 10 ∨ q = 11 ∨ q = 12 := by omega
    rcases h with h | h | h | h | h | h | h | h | h | h | h | h <;> (subst h; simp [zup_at])
theorem ccopy_is (c : Nat → Nat → Int32) (en : Nat → Nat) (ea : Nat → Nat → Int32) : (∀ x, (∀ v, v < 4 → x ≠ 70 + 3 + 2 * v) → (m_X1_copyFrom c en ea).1 x = c x) ∧ (∀ v, v < 4 → ∀ q, q ≤ 12 → q ≠ 5 → (m_X1_copyFrom c en ea).1 (70 + 3 + 2 * v) q = c (34 + 3 + 2 * v) q) ∧ (∀ v, v < 4 → (m_X1_copyFrom c en ea).2.2 (70 + 3 + 2 * v) = ea (34 + 3 + 2 * v)) ∧ (∀ k, (∀ v, v < 4 → k ≠ 70 + 3 + 2 * v) → (m_X1_copyFrom c en ea).2.2 k = ea k) := by
  have g : ∀ (n i : Nat) (c1 : Nat → Nat → Int32) (e1 : Nat → Nat) (a1 : Nat → Nat → Int32), i + n = 4 → (∀ x, (∀ v, v < 4 → x ≠ 70 + 3 + 2 * v) → c1 x = c x) → (∀ v, v < i → ∀ q, q ≤ 12 → q ≠ 5 → c1 (70 + 3 + 2 * v) q = c (34 + 3 + 2 * v) q) → (∀ v, v < i → a1 (70 + 3 + 2 * v) = ea (34 + 3 + 2 * v)) → (∀ k, (∀ v, v < 4 → k ≠ 70 + 3 + 2 * v) → a1 k = ea k) → (∀ x, (∀ v, v < 4 → x ≠ 70 + 3 + 2 * v) → (g1_X1_copyFrom c en ea n i c1 e1 a1 (fun _ c1 e1 a1 => (c1, e1, a1))).1 x = c x) ∧ (∀ v, v < 4 → ∀ q, q ≤ 12 → q ≠ 5 → (g1_X1_copyFrom c en ea n i c1 e1 a1 (fun _ c1 e1 a1 => (c1, e1, a1))).1 (70 + 3 + 2 * v) q = c (34 + 3 + 2 * v) q) ∧ (∀ v, v < 4 → (g1_X1_copyFrom c en ea n i c1 e1 a1 (fun _ c1 e1 a1 => (c1, e1, a1))).2.2 (70 + 3 + 2 * v) = ea (34 + 3 + 2 * v)) ∧ (∀ k, (∀ v, v < 4 → k ≠ 70 + 3 + 2 * v) → (g1_X1_copyFrom c en ea n i c1 e1 a1 (fun _ c1 e1 a1 => (c1, e1, a1))).2.2 k = ea k) := by
    intro n
    induction n with
    | zero => intro i c1 e1 a1 hi h1 h2 h3 h4
              have e : i = 4 := by omega
              subst e; exact ⟨h1, h2, h3, h4⟩
    | succ n ih =>
      intro i c1 e1 a1 hi h1 h2 h3 h4
      obtain ⟨b1, b2, b3⟩ := vcopy_is c1 e1 a1 i
      rw [g1_X1_copyFrom]
      refine ih (i + 1) _ _ _ (by omega) (fun x hx => (b1 x (hx i (by omega))).trans (h1 x hx)) (fun v hv q hq h5 => ?_) (fun v hv => ?_) (fun k hk => by rw [b3, va_up_ne _ _ (hk i (by omega))]; exact h4 k hk)
      · by_cases e : v = i
        · subst e; rw [b2 q hq h5, h1 _ (fun u hu => by omega)]
        · rw [b1 _ (by omega)]; exact h2 v (by omega) q hq h5
      · rw [b3]
        by_cases e : v = i
        · subst e; rw [va_up_self, h4 _ (fun u hu => by omega)]
        · rw [va_up_ne _ _ (by omega)]; exact h3 v (by omega)
  exact g 4 0 c en ea rfl (fun _ _ => rfl) (fun v hv => by omega) (fun v hv => by omega) (fun _ _ => rfl)
theorem tcopy_is (c : Nat → Nat → Int32) (en : Nat → Nat) (ea : Nat → Nat → Int32) (h10 : zn (c 1 0) ≤ 10) : (∀ x, x < 70 ∨ 106 ≤ x → (m_X4_copyFrom c en ea).1 x = c x) ∧ (∀ v, v < 4 → ∀ q, q ≤ 12 → q ≠ 5 → (m_X4_copyFrom c en ea).1 (70 + 3 + 2 * v) q = c (34 + 3 + 2 * v) q) ∧ (m_X4_copyFrom c en ea).2.2 = (m_X1_copyFrom c en ea).2.2 ∧ (∀ k, k < zn (c 1 0) → (m_X4_copyFrom c en ea).1 (70 + 22) k = c (34 + 22) k ∧ (m_X4_copyFrom c en ea).1 (70 + 23) k = c (34 + 23) k ∧ (m_X4_copyFrom c en ea).1 (70 + 35) k = c (34 + 35) k ∧ (c 2 k = 100 → ∀ q, q < 60 → (m_X4_copyFrom c en ea).1 (70 + 25 + k) q = c (34 + 25 + k) q)) := by
  obtain ⟨d1, d2, d3, d4⟩ := ccopy_is c en ea
  unfold m_X4_copyFrom
  generalize (m_X1_copyFrom c en ea).2.1 = e9
  generalize (m_X1_copyFrom c en ea).2.2 = a9
  have g : ∀ (n i : Nat) (c1 : Nat → Nat → Int32), i + n = zn (c 1 0) → (∀ x, x < 70 ∨ 106 ≤ x → c1 x = c x) → (∀ v, v < 4 → ∀ q, q ≤ 12 → q ≠ 5 → c1 (70 + 3 + 2 * v) q = c (34 + 3 + 2 * v) q) → (∀ k, k < i → c1 (70 + 22) k = c (34 + 22) k ∧ c1 (70 + 23) k = c (34 + 23) k ∧ c1 (70 + 35) k = c (34 + 35) k ∧ (c 2 k = 100 → ∀ q, q < 60 → c1 (70 + 25 + k) q = c (34 + 25 + k) q)) → ∃ D, g1_X4_copyFrom c en ea n i c1 (fun _ c1 => (c1, e9, a9)) = (D, e9, a9) ∧ (∀ x, x < 70 ∨ 106 ≤ x → D x = c x) ∧ (∀ v, v < 4 → ∀ q, q ≤ 12 → q ≠ 5 → D (70 + 3 + 2 * v) q = c (34 + 3 + 2 * v) q) ∧ (∀ k, k < zn (c 1 0) → D (70 + 22) k = c (34 + 22) k ∧ D (70 + 23) k = c (34 + 23) k ∧ D (70 + 35) k = c (34 + 35) k ∧ (c 2 k = 100 → ∀ q, q < 60 → D (70 + 25 + k) q = c (34 + 25 + k) q)) := by
    intro n
    induction n with
    | zero => intro i c1 hi h1 h2 h3
              have e : i = zn (c 1 0) := by omega
              subst e; exact ⟨c1, rfl, h1, h2, h3⟩
    | succ n ih =>
      intro i c1 hi h1 h2 h3
      rw [g1_X4_copyFrom]
      have Z : ∀ x q, zup (zup (zup c1 (70 + 22) i (c (34 + 22) i)) (70 + 23) i (c (34 + 23) i)) (70 + 35) i (c (34 + 35) i) x q = if x = 70 + 35 ∧ q = i then c (34 + 35) i else if x = 70 + 23 ∧ q = i then c (34 + 23) i else if x = 70 + 22 ∧ q = i then c (34 + 22) i else c1 x q := fun x q => by rw [zup_at, zup_at, zup_at]
      generalize zup (zup (zup c1 (70 + 22) i (c (34 + 22) i)) (70 + 23) i (c (34 + 23) i)) (70 + 35) i (c (34 + 35) i) = X at Z ⊢
      have xo : ∀ x q, x ≠ 70 + 35 → x ≠ 70 + 23 → x ≠ 70 + 22 → X x q = c1 x q := fun x q h1 h2 h3 => by rw [Z, if_neg (by omega), if_neg (by omega), if_neg (by omega)]
      have x3 : ∀ k, k < i + 1 → X (70 + 22) k = c (34 + 22) k ∧ X (70 + 23) k = c (34 + 23) k ∧ X (70 + 35) k = c (34 + 35) k := fun k hk => by
        by_cases e : k = i
        · subst e
          refine ⟨?_, ?_, ?_⟩
          · rw [Z, if_neg (by omega), if_neg (by omega), if_pos ⟨rfl, rfl⟩]
          · rw [Z, if_neg (by omega), if_pos ⟨rfl, rfl⟩]
          · rw [Z, if_pos ⟨rfl, rfl⟩]
        · obtain ⟨b1, b2, b3, _⟩ := h3 k (by omega)
          refine ⟨?_, ?_, ?_⟩
          · rw [Z, if_neg (by omega), if_neg (by omega), if_neg (by omega)]; exact b1
          · rw [Z, if_neg (by omega), if_neg (by omega), if_neg (by omega)]; exact b2
          · rw [Z, if_neg (by omega), if_neg (by omega), if_neg (by omega)]; exact b3
      by_cases hd : c 2 i = 100
      · rw [if_pos hd]
        refine ih (i + 1) _ (by omega) (fun x hx => ?_) (fun v hv q hq h5 => ?_) (fun k hk => ⟨?_, ?_, ?_, fun h9 q hq => ?_⟩)
        · rw [va_up_ne _ _ (by omega)]
          exact (funext fun q => xo x q (by omega) (by omega) (by omega)).trans (h1 x hx)
        · rw [va_up_ne _ _ (by omega), xo _ _ (by omega) (by omega) (by omega)]; exact h2 v hv q hq h5
        · rw [va_up_ne _ _ (by omega)]; exact (x3 k hk).1
        · rw [va_up_ne _ _ (by omega)]; exact (x3 k hk).2.1
        · rw [va_up_ne _ _ (by omega)]; exact (x3 k hk).2.2
        · by_cases e : k = i
          · subst e
            rw [va_up_self]
            unfold va_cpy
            rw [if_pos (by omega), xo _ _ (by omega) (by omega) (by omega), h1 _ (by omega), Nat.zero_add, Nat.sub_zero]
          · rw [va_up_ne _ _ (by omega), xo _ _ (by omega) (by omega) (by omega)]
            exact (h3 k (by omega)).2.2.2 h9 q hq
      · rw [if_neg hd]
        refine ih (i + 1) _ (by omega) (fun x hx => ?_) (fun v hv q hq h5 => ?_) (fun k hk => ⟨(x3 k hk).1, (x3 k hk).2.1, (x3 k hk).2.2, fun h9 q hq => ?_⟩)
        · exact (funext fun q => xo x q (by omega) (by omega) (by omega)).trans (h1 x hx)
        · rw [xo _ _ (by omega) (by omega) (by omega)]; exact h2 v hv q hq h5
        · have e : k ≠ i := fun e => hd (by rw [← e]; exact h9)
          rw [xo _ _ (by omega) (by omega) (by omega)]
          exact (h3 k (by omega)).2.2.2 h9 q hq
  obtain ⟨D, e, a1, a2, a3⟩ := g (zn (c 1 0)) 0 (m_X1_copyFrom c en ea).1 (by omega) (fun x hx => d1 x (fun v hv => by omega)) d2 (fun k hk => by omega)
  rw [e]
  exact ⟨a1, a2, rfl, a3⟩
theorem look_ok {c C ea : Nat → Nat → Int32} {en : Nat → Nat} {z y r T m0 : Nat} {R : Nat → Nat → Int32} (hr : 106 ≤ r) (hr2 : r < 114) (h1 : zI1 c) (h2 : zI2 c) (h3 : zI3 c) (h4 : zI4 c) (hg : zCg c C) (hg2 : C 114 = c 114) (hz : z ≤ 64) (hy : y ≤ 64) (hS : ∀ i, i < z → zSm c (R i) (R (i + 1))) (hL : ∀ i, i ≤ z → ∀ v, v < 4 → zn (R i (640 + 16 * v + 10)) ≤ T) (hT : T < 2 ^ 30) (hR : zTr 34 C (R 0)) (hV : zVo 34 C ea (R 0) m0) : (∀ q, q < z → (m_X6_lookAhead C en ea z y r).1 r q = R (q + 1) (630 + zn (c 1 1))) ∧ (∀ x, x < 70 ∨ 106 ≤ x → x ≠ r → (m_X6_lookAhead C en ea z y r).1 x = C x) ∧ (∀ k, (∀ v, v < 4 → k ≠ 70 + 3 + 2 * v) → (m_X6_lookAhead C en ea z y r).2.2 k = ea k) := by
  have h10 : zn (C 1 0) ≤ 10 := by rw [hg 1 (by decide)]; exact h1.2.2.1
  obtain ⟨t1, t2, t3, t4⟩ := tcopy_is C en ea h10
  obtain ⟨d1, d2, d3, d4⟩ := ccopy_is C en ea
  unfold m_X6_lookAhead
  dsimp only
  rw [t3]
  generalize (m_X4_copyFrom C en ea).1 = D at t1 t2 t4
  generalize (m_X1_copyFrom C en ea).2.2 = a9 at d3 d4
  have gD : zCg c D := fun x hx => (t1 x (by omega)).trans (hg x hx)
  have D114 : D 114 = C 114 := t1 114 (by omega)
  have fd := find_ok (c := c) (C := D) (ea := a9) (o := 70) (z := z) (y := y) (r := r) (T := T) (m0 := m0) (R := R) (by decide) hr hr2 h1 h2 h3 h4 gD (D114.trans hg2) hz hy hS hL hT (fun k hk => ?_) (fun v hv => ?_)
  · obtain ⟨f1, f2, _⟩ := fd
    exact ⟨f2, fun x hx hxr => (f1 x (by omega) hxr).trans (t1 x hx), d4⟩
  · rw [t1 1 (by omega)] at hk
    obtain ⟨b1, b2, b3, b4⟩ := t4 k hk
    obtain ⟨r1, r2, r3⟩ := hR k hk
    rw [D114, t1 4 (by omega), b1, b2, b3]
    refine ⟨r1, r2, fun hd => ?_⟩
    obtain ⟨s1, s2, s3⟩ := r3 hd
    rw [hg 1 (by decide)] at hk
    rw [hg2] at hd
    have x1 : c 2 k = 100 := by
      rcases (h2 k hk).1 with ⟨a, b⟩ | ⟨a, b⟩ | ⟨a, b⟩ | ⟨a, b⟩ | ⟨a, b⟩
      · rw [b] at hd; exact absurd hd (by decide)
      · rw [b] at hd; exact absurd hd (by decide)
      · exact a
      · rw [b] at hd; exact absurd hd (by decide)
      · rw [b] at hd; exact absurd hd (by decide)
    exact ⟨s1, s2, fun q hq => by rw [b4 (by rw [hg 2 (by decide)]; exact x1) q hq]; exact s3 q hq⟩
  · rw [d3 v hv]
    exact (hV v hv).scg (t2 v hv)
/-- the reference's samples alone -/
def mN (S : Nat → Nat → Int32) : Nat → (Nat → Nat → Int32)
  | 0 => S
  | i + 1 => (m_X7_samples (mN S i)).2
theorem mseq_ok {c S0 : Nat → Nat → Int32} (h1 : zI1 c) (h2 : zI2 c) (h3 : zI3 c) (h4 : zI4 c) (e : zSg c S0) (hD : zDp c (S0 112)) : ∀ i, zSg c (mN S0 i) ∧ zDp c (mN S0 i 112) ∧ (∀ x, x ≠ 112 → mN S0 i x = S0 x) := by
  intro i
  induction i with
  | zero => exact ⟨e, hD, fun _ _ => rfl⟩
  | succ i ih =>
    obtain ⟨a1, a2, a3⟩ := ih
    obtain ⟨b1, b2, b3, b4⟩ := smp_step h1 h2 h3 h4 a1 a2
    refine ⟨⟨?_, ?_, fun x h1 h2 => ?_⟩, b4, fun x hx => (b2 x hx).trans (a3 x hx)⟩
    · show (m_X7_samples (mN S0 i)).2 111 13 = _
      rw [b2 111 (by decide)]; exact a1.1
    · show (m_X7_samples (mN S0 i)).2 111 14 = _
      rw [b2 111 (by decide)]; exact a1.2.1
    · show (m_X7_samples (mN S0 i)).2 x = _
      rw [b2 x (by omega)]; exact a1.2.2 x h1 h2
theorem mseq_sm {c S0 : Nat → Nat → Int32} (h1 : zI1 c) (h2 : zI2 c) (h3 : zI3 c) (h4 : zI4 c) (e : zSg c S0) (hD : zDp c (S0 112)) (i : Nat) : zSm c (mN S0 i 112) (mN S0 (i + 1) 112) ∧ (m_X7_samples (mN S0 i)).1 = mN S0 (i + 1) 112 (630 + zn (c 111 14)) := by
  obtain ⟨a1, a2, _⟩ := mseq_ok h1 h2 h3 h4 e hD i
  obtain ⟨b1, b2, b3, b4⟩ := smp_step h1 h2 h3 h4 a1 a2
  exact ⟨b1, b3⟩
