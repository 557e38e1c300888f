/-- one sample: from the row r to the row r' -/
def zSm (g : Nat → Nat → Int32) (r r' : Nat → Int32) : Prop := (∀ k, k < zn (g 111 13) → g 114 k = 2 → r' (630 + k) = r (60 * k + zn (r (600 + k))) ∧ r' (600 + k) = nI ((zn (r (600 + k)) + 1) % zn (g 115 k)) ∧ ∀ q, q < 60 → r' (60 * k + q) = if q = zn (r (600 + k)) then r_X7_cut (inp g r' k + (r' (630 + k) * g 116 k) / 100) else r (60 * k + q)) ∧ (∀ k, k < zn (g 111 13) → fml g r r' k) ∧ (∀ v, v < 4 → ∀ q, q < 16 → r' (640 + 16 * v + q) = sgc (fun q => r (640 + 16 * v + q)) q) ∧ (∀ k, zn (g 111 13) ≤ k → k < 10 → r' (600 + k) = r (600 + k) ∧ r' (610 + k) = r (610 + k) ∧ r' (620 + k) = r (620 + k) ∧ r' (630 + k) = r (630 + k) ∧ ∀ q, q < 60 → r' (60 * k + q) = r (60 * k + q))
/-- the graph as the reference holds it -/
def zRg (c : Nat → Nat → Int32) (n : Nat) : Prop := zn (c 111 13) = n ∧ 1 ≤ n ∧ n ≤ 10 ∧ (∀ p, p < n → zn (c 121 p) < n) ∧ (∀ p q, p < n → q < n → c 121 p = c 121 q → p = q) ∧ (∀ p, p < n → ¬ c 114 (zn (c 121 p)) = 2 → ∀ i, i < zn (c 120 (zn (c 121 p))) → ∃ q, q < p ∧ c 121 q = c 118 (4 * zn (c 121 p) + i)) ∧ (∀ k, k < n → (c 114 k = 0 ↔ k = 0)) ∧ (∀ k, k < n → ∃ p, p < n ∧ zn (c 121 p) = k)
theorem samples_ok {c : Nat → Nat → Int32} {n : Nat} (h : zRg c n) (hD : ∀ k, k < n → c 114 k = 2 → zn (c 112 (600 + k)) < 60) : zSm c (c 112) ((m_X7_samples c).2 112) ∧ (∀ x, x ≠ 112 → (m_X7_samples c).2 x = c x) ∧ (m_X7_samples c).1 = (m_X7_samples c).2 112 (630 + zn (c 111 14)) := by
  obtain ⟨h1, h1n, hn, hO, hJ, hG, h0, hS⟩ := h
  unfold m_X7_samples
  rw [h1]
  obtain ⟨C1, e1, a1, a2, a3⟩ := s1_ok (c := c) (fun _ c1 => g2_X7_samples c n 0 c1 (fun _ c2 => g3_X7_samples c n 0 c2 (fun _ c3 => (c3 112 (630 + zn (c 111 14)), c3)))) n 0 c (by omega) (fun k _ hk h2 => hD k (by omega) h2)
  rw [e1]
  have hz : zJo c (C1 112) 0 C1 := ⟨a1, fun p hp => by omega, fun _ _ _ => ⟨rfl, rfl, rfl⟩, fun _ _ _ => rfl, fun _ _ => rfl, Or.inl ⟨fun p hp => by omega, fun _ _ => rfl⟩⟩
  obtain ⟨C2, e2, b1, b2, b3, b4, b5, b6⟩ := s2_ok hn hO hJ hG (fun k hk => (h0 k hk).mp) (fun _ c2 => g3_X7_samples c n 0 c2 (fun _ c3 => (c3 112 (630 + zn (c 111 14)), c3))) n 0 C1 (by omega) hz
  rw [e2]
  have r6 : ∀ q, q < 630 → C1 112 q = c 112 q := fun q hq => a3 q (fun k _ _ _ => by omega)
  have r9 : ∀ q, 640 ≤ q → C1 112 q = c 112 q := fun q hq => a3 q (fun k _ _ _ => by omega)
  have l6 : ∀ q, q < 610 → C2 112 q = c 112 q := fun q hq => by rw [b5 q hq, r6 q (by omega)]
  obtain ⟨C3, e3, d1, d2, d3, d4⟩ := s3_ok (c := c) (fun _ c3 => (c3 112 (630 + zn (c 111 14)), c3)) n 0 C2 (by omega) (fun u _ hu h2 => by rw [l6 _ (by omega)]; exact hD u (by omega) h2) (b1 118 (by decide)) (b1 119 (by decide)) (b1 120 (by decide))
  rw [e3]
  dsimp only
  have ei : ∀ k, inp c (C3 112) k = inp c (C2 112) k := fun k => inp_cg (fun i _ => d4 _ (by omega))
  have hsv : ∀ v, v < 4 → ∀ q, q < 16 → C3 112 (640 + 16 * v + q) = sgc (fun q => c 112 (640 + 16 * v + q)) q := fun v hv q hq => by
    rw [d4 _ (by omega)]
    rcases b6 with ⟨f1, _⟩ | ⟨_, f2⟩
    · obtain ⟨p, hp, e⟩ := hS 0 (by omega)
      exact absurd ((h0 _ (hO p hp)).mpr e) (f1 p hp)
    · rw [f2 v hv q hq]
      exact sgc_cg (fun q hq => r9 _ (by omega)) hq
  refine ⟨⟨fun k hk h2 => ?_, fun k hk => ?_, hsv, fun k hk hk10 => ?_⟩, fun x hx => by rw [d1 x hx, b1 x hx], rfl⟩
  · rw [h1] at hk
    obtain ⟨f1, f2⟩ := d2 k (by omega) (by omega) h2
    rw [l6 _ (by omega)] at f1 f2
    have hp := hD k hk h2
    refine ⟨?_, f1, fun q hq => ?_⟩
    · rw [d4 _ (by omega), b4 k (by omega) h2, a2 k (by omega) (by omega) h2]
    · rw [f2 q hq, ei, d4 (630 + k) (by omega), l6 (60 * k + q) (by omega)]
  · rw [h1] at hk
    obtain ⟨p, hp, e⟩ := hS k hk
    have f1 := b2 p hp
    rw [e] at f1
    refine (f1.cg (ei k) (d4 _ (by omega)) (d4 _ (by omega)) (d4 _ (by omega))).cgr (r6 _ (by omega)).symm (r6 _ (by omega)).symm (fun _ => sgs_cg (fun q hq _ => (r9 q hq).symm))
  · rw [h1] at hk
    obtain ⟨f1, f2⟩ := d3 k hk10 (fun h9 => by omega)
    obtain ⟨g1, g2, g3⟩ := b3 k hk10 (fun p hp e => by have := hO p hp; omega)
    refine ⟨by rw [f1, l6 _ (by omega)], by rw [d4 _ (by omega), g1, r6 _ (by omega)], by rw [d4 _ (by omega), g2, r6 _ (by omega)], by rw [d4 _ (by omega), g3, a3 _ (fun k2 _ h5 _ => by omega)], fun q hq => by rw [f2 q hq, l6 _ (by omega)]⟩
