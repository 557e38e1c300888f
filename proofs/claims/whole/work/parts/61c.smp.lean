theorem sgs_cg {r r' : Nat → Int32} (h : ∀ q, 640 ≤ q → q < 704 → r q = r' q) : sgs r = sgs r' := zsm_cg _ _ _ _ (fun v hv => sgv_cg (fun q hq => h _ (by omega) (by omega)))
theorem fml.cgr {g : Nat → Nat → Int32} {r r1 r' : Nat → Int32} {k : Nat} (h : fml g r r' k) (e1 : r1 (610 + k) = r (610 + k)) (e2 : r1 (620 + k) = r (620 + k)) (e3 : g 114 k = 0 → sgs r1 = sgs r) : fml g r1 r' k := by
  unfold fml at *
  rw [e1, e2]
  exact ⟨h.1, h.2.1, h.2.2.1, fun q => by rw [e3 q]; exact h.2.2.2 q⟩
theorem fml.g {g g' : Nat → Nat → Int32} {r r' : Nat → Int32} {k : Nat} (h : fml g' r r' k) (e : ∀ x, 114 ≤ x → x ≤ 120 → g' x = g x) : fml g r r' k := by
  unfold fml inp at *
  rw [e 114 (by decide) (by decide), e 115 (by decide) (by decide), e 116 (by decide) (by decide), e 117 (by decide) (by decide), e 118 (by decide) (by decide), e 119 (by decide) (by decide), e 120 (by decide) (by decide)] at h
  exact h
section
variable {c : Nat → Nat → Int32}
theorem s1_ok (K : Nat → (Nat → Nat → Int32) → Int32 × (Nat → Nat → Int32)) : ∀ (m i : Nat) (c1 : Nat → Nat → Int32), i + m ≤ 10 → (∀ k, i ≤ k → k < i + m → c 114 k = 2 → zn (c1 112 (600 + k)) < 60) → ∃ C, g1_X7_samples c m i c1 K = K (i + m) C ∧ (∀ x, x ≠ 112 → C x = c1 x) ∧ (∀ k, i ≤ k → k < i + m → c 114 k = 2 → C 112 (630 + k) = c1 112 (60 * k + zn (c1 112 (600 + k)))) ∧ (∀ q, (∀ k, i ≤ k → k < i + m → c 114 k = 2 → q ≠ 630 + k) → C 112 q = c1 112 q) := by
  intro m
  induction m with
  | zero => intro i c1 _ _; exact ⟨c1, rfl, fun _ _ => rfl, fun k h1 h2 => by omega, fun _ _ => rfl⟩
  | succ m ih =>
    intro i c1 hi h
    rw [g1_X7_samples]
    by_cases h2 : c 114 i = 2
    · rw [if_pos h2]
      have hp := h i (Nat.le_refl _) (by omega) h2
      obtain ⟨C, e, a1, a2, a3⟩ := ih (i + 1) (zup c1 112 (630 + i) (c1 112 (0 + (60 * i) + zn (c1 112 (600 + i))))) (by omega) (fun k h3 h4 h5 => by rw [zup_k _ _ (by omega)]; exact h k (by omega) (by omega) h5)
      refine ⟨C, by rw [e, show i + 1 + m = i + (m + 1) by omega], fun x hx => by rw [a1 x hx, zup_i _ _ _ hx], fun k h3 h4 h5 => ?_, fun q hq => ?_⟩
      · by_cases e1 : k = i
        · subst e1
          rw [a3 _ (fun k2 h6 h7 _ => by omega), zup_s, Nat.zero_add]
        · have hp2 := h k (by omega) (by omega) h5
          rw [a2 k (by omega) (by omega) h5, zup_k _ _ (by omega : 600 + k ≠ 630 + i), zup_k _ _ (by omega)]
      · rw [a3 q (fun k h3 h4 h5 => hq k (by omega) (by omega) h5), zup_k _ _ (hq i (Nat.le_refl _) (by omega) h2)]
    · rw [if_neg h2]
      obtain ⟨C, e, a1, a2, a3⟩ := ih (i + 1) c1 (by omega) (fun k h3 h4 h5 => h k (by omega) (by omega) h5)
      refine ⟨C, by rw [e, show i + 1 + m = i + (m + 1) by omega], a1, fun k h3 h4 h5 => ?_, fun q hq => a3 q (fun k h3 h4 h5 => hq k (by omega) (by omega) h5)⟩
      by_cases e1 : k = i
      · subst e1; exact absurd h5 h2
      · exact a2 k (by omega) (by omega) h5
theorem s3_ok (K : Nat → (Nat → Nat → Int32) → Int32 × (Nat → Nat → Int32)) : ∀ (m k : Nat) (c3 : Nat → Nat → Int32), k + m ≤ 10 → (∀ u, k ≤ u → u < k + m → c 114 u = 2 → zn (c3 112 (600 + u)) < 60) → c3 118 = c 118 → c3 119 = c 119 → c3 120 = c 120 → ∃ C, g3_X7_samples c m k c3 K = K (k + m) C ∧ (∀ x, x ≠ 112 → C x = c3 x) ∧ (∀ u, k ≤ u → u < k + m → c 114 u = 2 → C 112 (600 + u) = nI ((zn (c3 112 (600 + u)) + 1) % zn (c 115 u)) ∧ ∀ q, q < 60 → C 112 (60 * u + q) = if q = zn (c3 112 (600 + u)) then r_X7_cut (inp c (c3 112) u + (c3 112 (630 + u) * c 116 u) / 100) else c3 112 (60 * u + q)) ∧ (∀ u, u < 10 → ¬ (k ≤ u ∧ u < k + m ∧ c 114 u = 2) → C 112 (600 + u) = c3 112 (600 + u) ∧ ∀ q, q < 60 → C 112 (60 * u + q) = c3 112 (60 * u + q)) ∧ (∀ q, 610 ≤ q → C 112 q = c3 112 q) := by
  intro m
  induction m with
  | zero => intro k c3 _ _ _ _ _; exact ⟨c3, rfl, fun _ _ => rfl, fun u h1 h2 => by omega, fun u _ _ => ⟨rfl, fun _ _ => rfl⟩, fun _ _ => rfl⟩
  | succ m ih =>
    intro k c3 hk h r1 r2 r3
    rw [g3_X7_samples]
    by_cases h2 : c 114 k = 2
    · rw [if_pos h2]
      have hp := h k (Nat.le_refl _) (by omega) h2
      generalize hX : r_X7_cut ((m_X7_inputOf c3 k) + (((c3 112 (630 + k)) * (c 116 k)) / 100)) = X
      have hX2 : r_X7_cut (inp c (c3 112) k + (c3 112 (630 + k) * c 116 k) / 100) = X := by rw [← hX, inp_of, inp_g _ _ r1 r2 r3]
      generalize hY : nI ((zn (c3 112 (600 + k)) + 1) % zn (c 115 k)) = Y
      have Z : ∀ i q, zup (zup c3 112 (0 + (60 * k) + zn (c3 112 (600 + k))) X) 112 (600 + k) Y i q = if i = 112 ∧ q = 600 + k then Y else if i = 112 ∧ q = 60 * k + zn (c3 112 (600 + k)) then X else c3 i q := fun i q => by
        rw [zup_at, zup_at, Nat.zero_add]
      generalize zup (zup c3 112 (0 + (60 * k) + zn (c3 112 (600 + k))) X) 112 (600 + k) Y = c4 at Z
      have z6 : ∀ u, u ≠ k → c4 112 (600 + u) = c3 112 (600 + u) := fun u hu => by rw [Z, if_neg (by omega), if_neg (by omega)]
      have z0 : ∀ i q, i ≠ 112 → c4 i q = c3 i q := fun i q hi => by rw [Z, if_neg (by omega), if_neg (by omega)]
      have z9 : ∀ q, 610 ≤ q → c4 112 q = c3 112 q := fun q hq => by rw [Z, if_neg (by omega), if_neg (by omega)]
      have zl : ∀ u q, u ≠ k → u < 10 → q < 60 → c4 112 (60 * u + q) = c3 112 (60 * u + q) := fun u q hu h9 hq => by rw [Z, if_neg (by omega), if_neg (by omega)]
      have zi : ∀ u, inp c (c4 112) u = inp c (c3 112) u := fun u => inp_cg (fun i _ => z9 _ (by omega))
      obtain ⟨C, e, a1, a2, a3, a4⟩ := ih (k + 1) c4 (by omega) (fun u h3 h4 h5 => by rw [z6 u (by omega)]; exact h u (by omega) (by omega) h5) ((funext fun q => z0 118 q (by decide)).trans r1) ((funext fun q => z0 119 q (by decide)).trans r2) ((funext fun q => z0 120 q (by decide)).trans r3)
      refine ⟨C, by rw [e, show k + 1 + m = k + (m + 1) by omega], fun x hx => by rw [a1 x hx]; exact funext fun q => z0 x q hx, fun u h3 h4 h5 => ?_, fun u hu hn => ?_, fun q hq => by rw [a4 q hq, z9 q hq]⟩
      · by_cases e1 : u = k
        · subst e1
          obtain ⟨b1, b2⟩ := a3 u (by omega) (by omega)
          refine ⟨?_, fun q hq => ?_⟩
          · rw [b1, hY, Z, if_pos ⟨rfl, rfl⟩]
          · rw [b2 q hq, hX2, Z, if_neg (by omega)]
            by_cases e2 : q = zn (c3 112 (600 + u))
            · rw [if_pos e2, if_pos (by omega)]
            · rw [if_neg e2, if_neg (by omega)]
        · obtain ⟨b1, b2⟩ := a2 u (by omega) (by omega) h5
          rw [z6 u e1] at b1 b2
          refine ⟨b1, fun q hq => ?_⟩
          rw [b2 q hq, zi, z9 _ (by omega), zl u q e1 (by omega) hq]
      · have hne : u ≠ k := fun e1 => hn ⟨by omega, by omega, by rw [e1]; exact h2⟩
        obtain ⟨b1, b2⟩ := a3 u hu (fun h9 => hn ⟨by omega, by omega, h9.2.2⟩)
        exact ⟨by rw [b1, z6 u hne], fun q hq => by rw [b2 q hq, zl u q hne hu hq]⟩
    · rw [if_neg h2]
      obtain ⟨C, e, a1, a2, a3, a4⟩ := ih (k + 1) c3 (by omega) (fun u h3 h4 h5 => h u (by omega) (by omega) h5) r1 r2 r3
      refine ⟨C, by rw [e, show k + 1 + m = k + (m + 1) by omega], a1, fun u h3 h4 h5 => ?_, fun u hu hn => ?_, a4⟩
      · by_cases e1 : u = k
        · subst e1; exact absurd h5 h2
        · exact a2 u (by omega) (by omega) h5
      · refine a3 u hu (fun h9 => hn ⟨by omega, by omega, h9.2.2⟩)
/-- the order's loop -/
def zJo (c : Nat → Nat → Int32) (r1 : Nat → Int32) (j : Nat) (c2 : Nat → Nat → Int32) : Prop := (∀ x, x ≠ 112 → c2 x = c x) ∧ (∀ p, p < j → fml c r1 (c2 112) (zn (c 121 p))) ∧ (∀ k, k < 10 → (∀ p, p < j → zn (c 121 p) ≠ k) → c2 112 (610 + k) = r1 (610 + k) ∧ c2 112 (620 + k) = r1 (620 + k) ∧ c2 112 (630 + k) = r1 (630 + k)) ∧ (∀ k, k < 10 → c 114 k = 2 → c2 112 (630 + k) = r1 (630 + k)) ∧ (∀ q, q < 610 → c2 112 q = r1 q) ∧ (((∀ p, p < j → ¬ c 114 (zn (c 121 p)) = 0) ∧ ∀ q, 640 ≤ q → c2 112 q = r1 q) ∨ ((∃ p, p < j ∧ c 114 (zn (c 121 p)) = 0) ∧ ∀ v, v < 4 → ∀ q, q < 16 → c2 112 (640 + 16 * v + q) = sgc (fun q => r1 (640 + 16 * v + q)) q))
theorem s2_ok {n : Nat} {r1 : Nat → Int32} (hn : n ≤ 10) (hO : ∀ p, p < n → zn (c 121 p) < n) (hJ : ∀ p q, p < n → q < n → c 121 p = c 121 q → p = q) (hG : ∀ p, p < n → ¬ c 114 (zn (c 121 p)) = 2 → ∀ i, i < zn (c 120 (zn (c 121 p))) → ∃ q, q < p ∧ c 121 q = c 118 (4 * zn (c 121 p) + i)) (h0 : ∀ k, k < n → c 114 k = 0 → k = 0) (K : Nat → (Nat → Nat → Int32) → Int32 × (Nat → Nat → Int32)) : ∀ (m j : Nat) (c2 : Nat → Nat → Int32), j + m = n → zJo c r1 j c2 → ∃ C, g2_X7_samples c m j c2 K = K n C ∧ zJo c r1 n C := by
  intro m
  induction m with
  | zero => intro j c2 hj h; have e : j = n := by omega
            subst e; exact ⟨c2, rfl, h⟩
  | succ m ih =>
    intro j c2 hj h
    obtain ⟨a1, a2, a3, a4, a5, a6⟩ := h
    have hjn : j < n := by omega
    have hk := hO j hjn
    have inj : ∀ p, p < j → zn (c 121 p) ≠ zn (c 121 j) := fun p hp e => by
      have := hJ p j (by omega) hjn (zn_inj e); omega
    rw [g2_X7_samples]
    by_cases h2 : c 114 (zn (c 121 j)) = 2
    · rw [if_pos h2]
      refine ih (j + 1) c2 (by omega) ⟨a1, fun p hp => ?_, fun k hk9 hp => a3 k hk9 (fun p h9 => hp p (by omega)), a4, a5, ?_⟩
      · by_cases e : p = j
        · subst e
          refine ⟨fun q => ?_, fun q => ?_, fun q => ?_, fun q => ?_⟩ <;> (rw [h2] at q; exact absurd q (by decide))
        · exact a2 p (by omega)
      · rcases a6 with ⟨b1, b2⟩ | ⟨⟨p, b1, b3⟩, b2⟩
        · refine Or.inl ⟨fun p hp => ?_, b2⟩
          by_cases e : p = j
          · subst e; rw [h2]; decide
          · exact b1 p (by omega)
        · exact Or.inr ⟨⟨p, by omega, b3⟩, b2⟩
    · rw [if_neg h2]
      show ∃ C, g2_X7_samples c m (j + 1) (snx c2 (zn (c 121 j))) K = K n C ∧ zJo c r1 n C
      have e114 := a1 114 (by decide)
      have e120 := a1 120 (by decide)
      have e118 := a1 118 (by decide)
      obtain ⟨s1, s2, s3, s4⟩ := snx_o (C := c2) (k := zn (c 121 j)) (by omega)
      have src : ∀ p, p ≤ j → ¬ c 114 (zn (c 121 p)) = 2 → ∀ i, i < zn (c 120 (zn (c 121 p))) → zn (c 118 (4 * zn (c 121 p) + i)) ≠ zn (c 121 j) ∧ zn (c 118 (4 * zn (c 121 p) + i)) < 10 := fun p hp hd i hi => by
        obtain ⟨q, hq, eq⟩ := hG p (by omega) hd i hi
        rw [← eq]
        exact ⟨inj q (by omega), by have := hO q (by omega); omega⟩
      have sf := snx_f (C := c2) (k := zn (c 121 j)) (by omega) (fun i hi => by rw [e120] at hi; rw [e118]; exact src j (Nat.le_refl _) h2 i hi)
      have sf2 := sf.g (g := c) (fun x hx1 hx2 => a1 x (by omega))
      obtain ⟨u1, u2, _⟩ := a3 (zn (c 121 j)) (by omega) inj
      have np0 : c 114 (zn (c 121 j)) = 0 → (∀ q, 640 ≤ q → c2 112 q = r1 q) := fun h9 => by
        rcases a6 with ⟨b1, b2⟩ | ⟨⟨p, b1, b3⟩, b2⟩
        · exact b2
        · exact absurd ((h0 _ (hO p (by omega)) b3).trans (h0 _ hk h9).symm) (inj p b1)
      have sf3 := sf2.cgr (r1 := r1) u1.symm u2.symm (fun h9 => sgs_cg (fun q h8 _ => (np0 h9 q h8).symm))
      refine ih (j + 1) _ (by omega) ⟨fun x hx => (s1 x hx).trans (a1 x hx), fun p hp => ?_, fun k hk9 hp => ?_, fun k hk9 hd => ?_, fun q hq => ?_, ?_⟩
      · by_cases e : p = j
        · subst e; exact sf3
        · have hp2 : p < j := by omega
          have hne := inj p hp2
          have hpn := hO p (by omega)
          by_cases hd : c 114 (zn (c 121 p)) = 2
          · refine ⟨fun q => ?_, fun q => ?_, fun q => ?_, fun q => ?_⟩ <;> (rw [hd] at q; exact absurd q (by decide))
          · refine (a2 p hp2).cg (inp_cg (fun i hi => ?_)) (s2 _ (by omega) (by omega) (by omega) (by omega)) (s2 _ (by omega) (by omega) (by omega) (by omega)) (s2 _ (by omega) (by omega) (by omega) (by omega))
            have := src p (by omega) hd i hi
            exact s2 _ (by omega) (by omega) (by omega) (by omega)
      · have hne := hp j (by omega)
        rw [s2 (610 + k) (by omega) (by omega) (by omega) (by omega), s2 (620 + k) (by omega) (by omega) (by omega) (by omega), s2 (630 + k) (by omega) (by omega) (by omega) (by omega)]
        exact a3 k hk9 (fun p h9 => hp p (by omega))
      · have hne : k ≠ zn (c 121 j) := fun e => h2 (by rw [← e]; exact hd)
        rw [s2 (630 + k) (by omega) (by omega) (by omega) (by omega)]
        exact a4 k hk9 hd
      · rw [s2 q (by omega) (by omega) (by omega) (by omega)]; exact a5 q hq
      · by_cases h9 : c 114 (zn (c 121 j)) = 0
        · refine Or.inr ⟨⟨j, by omega, h9⟩, fun v hv q hq => ?_⟩
          rw [s4 (by rw [e114]; exact h9) v hv q hq]
          exact sgc_cg (fun q hq => np0 h9 _ (by omega)) hq
        · have s3' := s3 (by rw [e114]; exact h9)
          rcases a6 with ⟨b1, b2⟩ | ⟨⟨p, b1, b3⟩, b2⟩
          · refine Or.inl ⟨fun p hp => ?_, fun q hq => by rw [s3' q hq]; exact b2 q hq⟩
            by_cases e : p = j
            · subst e; exact h9
            · exact b1 p (by omega)
          · exact Or.inr ⟨⟨p, by omega, b3⟩, fun v hv q hq => by rw [s3' _ (by omega)]; exact b2 v hv q hq⟩
end
