/-! the reference's samples in a row, and the meter -/
theorem rg_of {c : Nat → Nat → Int32} (h1 : zI1 c) (h2 : zI2 c) (h3 : zI3 c) (h4 : zI4 c) : zRg c (zn (c 1 0)) := by
  refine ⟨by rw [h1.1], h1.2.1, h1.2.2.1, fun p hp => by rw [(h4.1 p hp).1]; exact (h4.1 p hp).2, fun p q hp hq e => ?_, fun p hp hd i hi => ?_, fun k hk => (h2 k hk).2.1, fun k hk => ?_⟩
  · rw [(h4.1 p hp).1, (h4.1 q hq).1] at e; exact h4.2.1 p q hp hq e
  · rw [(h4.1 p hp).1] at hd hi ⊢
    have nd := (h4.1 p hp).2
    rw [(h3 _ nd).1] at hi
    obtain ⟨q, hq, e⟩ := h4.2.2.2 p hp hd i hi
    exact ⟨q, hq, by rw [(h4.1 q (by omega)).1, e, ((h3 _ nd).2.2 i hi).1]⟩
  · obtain ⟨p, hp, e⟩ := h4.2.2.1 (nI k) (by have := h1.2.2.1; rw [zn_nI (by omega)]; exact hk)
    exact ⟨p, hp, by rw [(h4.1 p hp).1, e, zn_nI (by have := h1.2.2.1; omega)]⟩
/-- the reference's graph is the one of c -/
def zSg (c S : Nat → Nat → Int32) : Prop := S 111 13 = c 111 13 ∧ S 111 14 = c 111 14 ∧ ∀ x, 114 ≤ x → x ≤ 121 → S x = c x
theorem zSm.g {c S : Nat → Nat → Int32} {r r' : Nat → Int32} (h : zSm S r r') (e : zSg c S) : zSm c r r' := by
  obtain ⟨a1, a2, a3, a4⟩ := h
  obtain ⟨e1, _, e3⟩ := e
  rw [e1] at a1 a2 a4
  refine ⟨fun k hk hd => ?_, fun k hk => (a2 k hk).g (fun x h1 h2 => e3 x h1 (by omega)), a3, a4⟩
  have := a1 k hk (by rw [e3 114 (by decide) (by decide)]; exact hd)
  rwa [e3 115 (by decide) (by decide), e3 116 (by decide) (by decide), inp_g r' k (e3 118 (by decide) (by decide)) (e3 119 (by decide) (by decide)) (e3 120 (by decide) (by decide))] at this
theorem zRg.cg {c S : Nat → Nat → Int32} {n : Nat} (h : zRg c n) (e : zSg c S) : zRg S n := by
  obtain ⟨e1, _, e3⟩ := e
  unfold zRg at *
  rw [e1, e3 121 (by decide) (by decide), e3 114 (by decide) (by decide), e3 118 (by decide) (by decide), e3 120 (by decide) (by decide)]
  exact h
/-- the delays' places -/
def zDp (c : Nat → Nat → Int32) (r : Nat → Int32) : Prop := ∀ k, k < zn (c 1 0) → c 114 k = 2 → zn (r (600 + k)) < 60
theorem smp_step {c S : Nat → Nat → Int32} (h1 : zI1 c) (h2 : zI2 c) (h3 : zI3 c) (h4 : zI4 c) (e : zSg c S) (hD : zDp c (S 112)) : zSm c (S 112) ((m_X7_samples S).2 112) ∧ (∀ x, x ≠ 112 → (m_X7_samples S).2 x = S x) ∧ (m_X7_samples S).1 = (m_X7_samples S).2 112 (630 + zn (c 111 14)) ∧ zDp c ((m_X7_samples S).2 112) := by
  obtain ⟨a1, a2, a3⟩ := samples_ok ((rg_of h1 h2 h3 h4).cg e) (fun k hk hd => hD k hk (by rw [← e.2.2 114 (by decide) (by decide)]; exact hd))
  have a1' := a1.g e
  refine ⟨a1', a2, by rw [← e.2.1]; exact a3, fun k hk hd => ?_⟩
  obtain ⟨p1, p2, p3, p4⟩ := (h2 k hk).2.2.2.1 hd
  rw [(a1'.1 k (by rw [h1.1]; exact hk) hd).2.1, p1]
  have := Nat.mod_lt (zn (S 112 (600 + k)) + 1) (show 0 < zn (c 4 k) by omega)
  rw [zn_nI (by omega)]; omega
theorem sgc10 {p : Nat → Int32} {T : Nat} (h : zn (p 10) ≤ T) (hT : T < 2 ^ 30) : zn (sgc p 10) ≤ T + 1 := by
  unfold sgc
  by_cases h0 : p 0 = 1
  · rw [if_pos h0, if_neg (by decide)]
    by_cases h1 : p 1 = 1
    · rw [if_pos h1, if_neg (by decide), if_neg (by decide)]; omega
    · rw [if_neg h1, if_pos rfl, zn_add (N := 2 ^ 30) (by omega) (by decide)]; omega
  · rw [if_neg h0]; omega
theorem sm10 {c : Nat → Nat → Int32} {r r' : Nat → Int32} {T : Nat} (h : zSm c r r') (hT : T < 2 ^ 30) (h9 : ∀ v, v < 4 → zn (r (640 + 16 * v + 10)) ≤ T) : ∀ v, v < 4 → zn (r' (640 + 16 * v + 10)) ≤ T + 1 := fun v hv => by
  rw [h.2.2.1 v hv 10 (by decide)]
  exact sgc10 (h9 v hv) hT
/-- the meter on both sides -/
def zMr (a b : Nat → Nat → Int32) (wa wb : Nat → Int64) : Prop := b 111 22 = a 106 1 ∧ b 111 23 = a 106 2 ∧ wb 111 = wa 106 ∧ b 111 24 = a 106 4 ∧ ∀ q, q < 64 → b 122 q = a 107 q
def sN (S : Nat → Nat → Int32) (w : Nat → Int64) : Nat → (Nat → Nat → Int32) × (Nat → Int64)
  | 0 => (S, w)
  | i + 1 => ((m_X7_sampled (sN S w i).1 (sN S w i).2).2.1, (m_X7_sampled (sN S w i).1 (sN S w i).2).2.2)
def aN (F : Nat → Nat → Int32) (w : Nat → Int64) : Nat → (Nat → Nat → Int32) × (Nat → Int64)
  | 0 => (F, w)
  | i + 1 => m_X3_note (aN F w i).1 (aN F w i).2 ((aN F w i).1 108 i)
theorem sampled_is (c : Nat → Nat → Int32) (w : Nat → Int64) : (m_X7_sampled c w).1 = (m_X7_samples c).1 ∧ (∀ i q, ¬ (i = 111 ∧ (q = 22 ∨ q = 23 ∨ q = 24)) → i ≠ 122 → (m_X7_sampled c w).2.1 i q = (m_X7_samples c).2 i q) ∧ (∀ q, (m_X7_sampled c w).2.1 122 q = if q = zn (c 111 22) % 64 then (m_X7_samples c).1 else (m_X7_samples c).2 122 q) ∧ (m_X7_sampled c w).2.1 111 22 = nI (zn (c 111 22) + 1) ∧ (m_X7_sampled c w).2.1 111 23 = (if r_X7_size ((m_X7_samples c).1) ≤ c 111 23 then c 111 23 else r_X7_size ((m_X7_samples c).1)) ∧ (m_X7_sampled c w).2.1 111 24 = c 111 24 + (if (m_X7_samples c).1 = 0 then 1 else 0) ∧ (m_X7_sampled c w).2.2 = va_up w 111 (w 111 + ((m_X7_samples c).1).toInt64 * ((m_X7_samples c).1).toInt64) := by
  unfold m_X7_sampled
  generalize (m_X7_samples c).2 = D
  generalize (m_X7_samples c).1 = v
  have Z : ∀ X Y Z' i q, zup (zup (zup (zup D 122 (zn (c 111 22) % 64) v) 111 22 X) 111 23 Y) 111 24 Z' i q = if i = 111 ∧ q = 24 then Z' else if i = 111 ∧ q = 23 then Y else if i = 111 ∧ q = 22 then X else if i = 122 ∧ q = zn (c 111 22) % 64 then v else D i q := fun X Y Z' i q => by
    rw [zup_at, zup_at, zup_at, zup_at]
  have A : ∀ X Y Z', (∀ i q, ¬ (i = 111 ∧ (q = 22 ∨ q = 23 ∨ q = 24)) → i ≠ 122 → zup (zup (zup (zup D 122 (zn (c 111 22) % 64) v) 111 22 X) 111 23 Y) 111 24 Z' i q = D i q) ∧ (∀ q, zup (zup (zup (zup D 122 (zn (c 111 22) % 64) v) 111 22 X) 111 23 Y) 111 24 Z' 122 q = if q = zn (c 111 22) % 64 then v else D 122 q) ∧ zup (zup (zup (zup D 122 (zn (c 111 22) % 64) v) 111 22 X) 111 23 Y) 111 24 Z' 111 22 = X ∧ zup (zup (zup (zup D 122 (zn (c 111 22) % 64) v) 111 22 X) 111 23 Y) 111 24 Z' 111 23 = Y ∧ zup (zup (zup (zup D 122 (zn (c 111 22) % 64) v) 111 22 X) 111 23 Y) 111 24 Z' 111 24 = Z' := fun X Y Z' => by
    refine ⟨fun i q h1 h2 => ?_, fun q => ?_, ?_, ?_, ?_⟩
    · rw [Z, if_neg (by omega), if_neg (by omega), if_neg (by omega), if_neg (by omega)]
    · rw [Z, if_neg (by omega), if_neg (by omega), if_neg (by omega)]
      by_cases e : q = zn (c 111 22) % 64
      · rw [if_pos ⟨rfl, e⟩, if_pos e]
      · rw [if_neg (fun h => e h.2), if_neg e]
    · rw [Z, if_neg (by decide), if_neg (by decide), if_pos (by decide)]
    · rw [Z, if_neg (by decide), if_pos (by decide)]
    · rw [Z, if_pos (by decide)]
  by_cases h1 : r_X7_size v ≤ c 111 23
  · rw [if_pos h1, if_pos h1]
    by_cases h2 : v = 0
    · rw [if_pos h2, if_pos h2]
      obtain ⟨a1, a2, a3, a4, a5⟩ := A (nI (zn (c 111 22) + 1)) (c 111 23) (c 111 24 + 1)
      exact ⟨rfl, a1, a2, a3, a4, a5, rfl⟩
    · rw [if_neg h2, if_neg h2]
      obtain ⟨a1, a2, a3, a4, a5⟩ := A (nI (zn (c 111 22) + 1)) (c 111 23) (c 111 24 + 0)
      exact ⟨rfl, a1, a2, a3, a4, a5, rfl⟩
  · rw [if_neg h1, if_neg h1]
    by_cases h2 : v = 0
    · rw [if_pos h2, if_pos h2]
      obtain ⟨a1, a2, a3, a4, a5⟩ := A (nI (zn (c 111 22) + 1)) (r_X7_size v) (c 111 24 + 1)
      exact ⟨rfl, a1, a2, a3, a4, a5, rfl⟩
    · rw [if_neg h2, if_neg h2]
      obtain ⟨a1, a2, a3, a4, a5⟩ := A (nI (zn (c 111 22) + 1)) (r_X7_size v) (c 111 24 + 0)
      exact ⟨rfl, a1, a2, a3, a4, a5, rfl⟩
theorem note_is (c : Nat → Nat → Int32) (w : Nat → Int64) (x : Int32) : (∀ i q, i ≠ 106 → i ≠ 107 → (m_X3_note c w x).1 i q = c i q) ∧ (∀ q, (m_X3_note c w x).1 107 q = if q = zn (c 106 1 &&& 63) then x else c 107 q) ∧ (m_X3_note c w x).1 106 1 = c 106 1 + 1 ∧ (m_X3_note c w x).1 106 2 = zmax (c 106 2) (zabs x) ∧ (m_X3_note c w x).1 106 4 = c 106 4 + (if x = 0 then 1 else 0) ∧ (m_X3_note c w x).2 = va_up w 106 (w 106 + x.toInt64 * x.toInt64) := by
  unfold m_X3_note
  by_cases h : x = 0
  · rw [if_pos h, if_pos h]
    dsimp only
    refine ⟨fun i q h1 h2 => ?_, fun q => ?_, ?_, ?_, ?_, rfl⟩
    · rw [zup_i _ _ _ h1, zup_i _ _ _ h1, zup_i _ _ _ h1, zup_i _ _ _ h2]
    · rw [zup_i _ _ _ (by decide), zup_i _ _ _ (by decide), zup_i _ _ _ (by decide), zup_at]
      by_cases e : q = zn (c 106 1 &&& 63)
      · rw [if_pos ⟨rfl, e⟩, if_pos e]
      · rw [if_neg (fun h => e h.2), if_neg e]
    · rw [zup_k _ _ (by decide), zup_k _ _ (by decide), zup_s]
    · rw [zup_k _ _ (by decide), zup_s]
    · rw [zup_s]
  · rw [if_neg h, if_neg h]
    dsimp only
    refine ⟨fun i q h1 h2 => ?_, fun q => ?_, ?_, ?_, ?_, rfl⟩
    · rw [zup_i _ _ _ h1, zup_i _ _ _ h1, zup_i _ _ _ h2]
    · rw [zup_i _ _ _ (by decide), zup_i _ _ _ (by decide), zup_at]
      by_cases e : q = zn (c 106 1 &&& 63)
      · rw [if_pos ⟨rfl, e⟩, if_pos e]
      · rw [if_neg (fun h => e h.2), if_neg e]
    · rw [zup_k _ _ (by decide), zup_s]
    · rw [zup_s]
    · rw [zup_k _ _ (by decide), zup_k _ _ (by decide), zup_i _ _ _ (by decide), Int32.add_zero]
theorem zMr.step {a b : Nat → Nat → Int32} {wa wb : Nat → Int64} (h : zMr a b wa wb) (hb : ∀ q, (m_X7_samples b).2 122 q = b 122 q) : zMr (m_X3_note a wa ((m_X7_samples b).1)).1 (m_X7_sampled b wb).2.1 (m_X3_note a wa ((m_X7_samples b).1)).2 (m_X7_sampled b wb).2.2 := by
  obtain ⟨h1, h2, h3, h4, h5⟩ := h
  obtain ⟨s1, s2, s3, s4, s5, s6, s7⟩ := sampled_is b wb
  obtain ⟨n1, n2, n3, n4, n5, n6⟩ := note_is a wa ((m_X7_samples b).1)
  refine ⟨?_, ?_, ?_, ?_, fun q hq => ?_⟩
  · rw [s4, n3, h1, ← nI_add, ← zn_eq]; rfl
  · rw [s5, n4, h2]
    have e : zabs ((m_X7_samples b).1) = r_X7_size ((m_X7_samples b).1) := by
      unfold zabs r_X7_size
      by_cases h : 0 ≤ (m_X7_samples b).1
      · rw [if_pos h, if_pos h]
      · rw [if_neg h, if_neg h, Int32.zero_sub]
    unfold zmax
    rw [e]
    by_cases h : a 106 2 < r_X7_size ((m_X7_samples b).1)
    · rw [if_pos h, if_neg (Int32.not_le.mpr h)]
    · rw [if_neg h, if_pos (Int32.not_lt.mp h)]
  · rw [s7, n6, va_up_self, va_up_self, h3]
  · rw [s6, n5, h4]
  · rw [s3, n2, zand63, h1, hb, h5 q hq]
theorem perf_eq (c : Nat → Nat → Int32) (w : Nat → Int64) (ea : Nat → Nat → Int32) (z y : Nat) (F : Nat → Nat → Int32) (K : Nat → (Nat → Nat → Int32) → (Nat → Int64) → Int32 × (Nat → Nat → Int32) × (Nat → Int64)) : ∀ (n i : Nat), g1_X6_perform c w ea z y n i (aN F w i).1 (aN F w i).2 K = K (i + n) (aN F w (i + n)).1 (aN F w (i + n)).2 := by
  intro n
  induction n with
  | zero => intro i; rfl
  | succ n ih =>
    intro i
    rw [g1_X6_perform, show i + (n + 1) = i + 1 + n by omega]
    exact ih (i + 1)
theorem play_eq (c : Nat → Nat → Int32) (w : Nat → Int64) (x : Int32) (S : Nat → Nat → Int32) (w0 : Nat → Int64) (K : Nat → Int32 → (Nat → Nat → Int32) → (Nat → Int64) → Int32 × (Nat → Nat → Int32) × (Nat → Int64)) : ∀ (n i : Nat) (y : Int32), g1_X7_play c w x (n + 1) i y (sN S w0 i).1 (sN S w0 i).2 K = K (i + n + 1) ((m_X7_samples (sN S w0 (i + n)).1).1) (sN S w0 (i + n + 1)).1 (sN S w0 (i + n + 1)).2 := by
  intro n
  induction n with
  | zero =>
    intro i y
    rw [g1_X7_play, (sampled_is _ _).1]
    rfl
  | succ n ih =>
    intro i y
    rw [g1_X7_play]
    have h := ih (i + 1) ((m_X7_sampled (sN S w0 i).1 (sN S w0 i).2).1)
    rw [show i + (n + 1) = i + 1 + n by omega]
    exact h
