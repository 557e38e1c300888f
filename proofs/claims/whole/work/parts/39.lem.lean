theorem if_f (c : Nat → Nat → Int32) (x : Int32) {k : Nat} (h : k ≠ 12) : (m_X7_isFull c x).2 111 k = c 111 k := by
  unfold m_X7_isFull
  by_cases q : x = 0
  · rw [if_pos q]
    by_cases q2 : c 111 13 = 10
    · rw [if_pos q2]; show zup c 111 12 2 111 k = _; exact zup_k _ _ h
    · rw [if_neg q2]; show zup c 111 12 0 111 k = _; exact zup_k _ _ h
  · rw [if_neg q]; show zup c 111 12 1 111 k = _; exact zup_k _ _ h
theorem if_1 (c : Nat → Nat → Int32) : ¬ (m_X7_isFull c 1).1 = 0 := by
  unfold m_X7_isFull
  rw [if_neg (by decide)]; show ¬ (1 : Int32) = 0; decide
theorem if_ok {c : Nat → Nat → Int32} (hg : zG c) (h : (m_X7_isFull c 0).1 = 0) : zn (c 111 13) < 10 := by
  have hc : zn (c 111 13) ≤ 10 := hg 111 13
  unfold m_X7_isFull at h
  rw [if_pos rfl] at h
  by_cases q2 : c 111 13 = 10
  · rw [if_pos q2] at h; exact absurd (show (1 : Int32) = 0 from h) (by decide)
  · have : zn (c 111 13) ≠ 10 := fun z => q2 (zn_inj z)
    omega
theorem wl_ok {c : Nat → Nat → Int32} (hg : zG c) {x : Int32} {t : Nat} (h : ¬ m_X7_wire c x t < 0) : zn (m_X7_wire c x t) < zn (c 120 t) := by
  have hc : zn (c 120 t) ≤ 4 := hg 120 t
  rcases wire_at hc x with h1 | ⟨i, h1, h2, _, _⟩
  · rw [h1.1] at h; exact absurd (by decide) h
  · rw [h2, zn_nI (by omega)]; exact h1
theorem vf_lt (c : Nat → Nat → Int32) : zn (m_X7_voiceFor c) < 4 := by
  have g3 : ∀ (n k y : Nat), k + n = 4 → y < 4 → zn (g3_X7_voiceFor c n k y (fun _ y => nI y)) < 4 := by
    intro n
    induction n with
    | zero => intro k y _ hy; rw [g3_X7_voiceFor, zn_nI (by omega)]; exact hy
    | succ n ih =>
      intro k y hk hy
      rw [g3_X7_voiceFor]
      split
      · exact ih _ _ (by omega) hy
      · exact ih _ _ (by omega) (by omega)
  have g2 : ∀ (n j : Nat) (x : Int32) (K : Nat → Int32 → Int32), j + n = 4 → (x = -1 ∨ zn x < 4) → (∀ j x, (x = -1 ∨ zn x < 4) → zn (K j x) < 4) → zn (g2_X7_voiceFor c n j x K) < 4 := by
    intro n
    induction n with
    | zero => intro j x K _ hx hK; exact hK j x hx
    | succ n ih =>
      intro j x K hj hx hK
      have hj2 : nI j = -1 ∨ zn (nI j) < 4 := Or.inr (by rw [zn_nI (by omega)]; omega)
      rw [g2_X7_voiceFor]
      split
      · exact ih _ _ K (by omega) hx hK
      · split
        · exact ih _ _ K (by omega) hj2 hK
        · split
          · exact ih _ _ K (by omega) hx hK
          · exact ih _ _ K (by omega) hj2 hK
  have g1 : ∀ (n i : Nat) (K : Nat → Int32), i + n = 4 → (∀ i, zn (K i) < 4) → zn (g1_X7_voiceFor c n i K) < 4 := by
    intro n
    induction n with
    | zero => intro i K _ hK; exact hK i
    | succ n ih =>
      intro i K hi hK
      rw [g1_X7_voiceFor]
      split
      · rw [zn_nI (by omega)]; omega
      · exact ih _ K (by omega) hK
  unfold m_X7_voiceFor
  refine g1 4 0 _ (by omega) (fun i => g2 4 0 (-1) _ (by omega) (Or.inl rfl) (fun j x hx => ?_))
  split
  · exact g3 3 1 0 (by omega) (by decide)
  · rename_i h
    exact hx.resolve_left (fun q => h (by rw [q]; decide))
theorem zn_i2c (x : Int32) : zn ((x.toUInt32 % 65536).toInt32) ≤ 65535 := by
  show (x.toUInt32 % 65536).toInt32.toUInt32.toNat ≤ 65535
  have e : (x.toUInt32 % 65536).toInt32.toUInt32 = x.toUInt32 % 65536 := by rfl
  rw [e, UInt32.toNat_mod]
  exact Nat.le_of_lt_succ (Nat.mod_lt _ (by decide))
theorem zLv.eq {T : Nat} {r r' : Nat → Int32} (h : zLv T r) (e : ∀ q, 640 ≤ q → q < 704 → r' q = r q) : zLv T r' := fun u hu => by
  rw [e (640 + 16 * u + 0) (by omega) (by omega), e (640 + 16 * u + 1) (by omega) (by omega), e (640 + 16 * u + 8) (by omega) (by omega), e (640 + 16 * u + 10) (by omega) (by omega), e (640 + 16 * u + 5) (by omega) (by omega)]
  exact h u hu
theorem zLv.releases {T : Nat} {c : Nat → Nat → Int32} (h : zLv T (c 112)) (v : Nat) : zLv T (m_X7_releases c v 112) := by
  intro u hu
  have e1 : ∀ q, q < 16 → (u ≠ v ∨ (q ≠ 0 ∧ q ≠ 1 ∧ q ≠ 11 ∧ q ≠ 12 ∧ q ≠ 14)) → m_X7_releases c v 112 (640 + 16 * u + q) = c 112 (640 + 16 * u + q) := by
    intro q hq h9
    have a : (zup (m_X7_lay (m_X7_lay (m_X7_lay (m_X7_lay c v 1 1) v 11 (m_X7_levelAt c v)) v 12 0) v 14 (c 111 21)) 111 21 ((c 111 21) + 1)) 112 (640 + 16 * u + q) = c 112 (640 + 16 * u + q) := by
      rw [zup_i _ _ _ (by decide), zlay_e _ (by decide) hq (by omega), zlay_e _ (by decide) hq (by omega), zlay_e _ (by decide) hq (by omega), zlay_e _ (by decide) hq (by omega)]
    unfold m_X7_releases
    split
    · rw [zlay_e _ (by decide) hq (by omega)]; exact a
    · exact a
  rw [e1 8 (by decide) (by omega), e1 10 (by decide) (by omega), e1 5 (by decide) (by omega)]
  refine ⟨fun p0 p1 => ?_, (h u hu).2⟩
  by_cases hv : u = v
  · subst hv
    intro h8
    unfold m_X7_releases at p0
    have a : m_X7_at (zup (m_X7_lay (m_X7_lay (m_X7_lay (m_X7_lay c u 1 1) u 11 (m_X7_levelAt c u)) u 12 0) u 14 (c 111 21)) 111 21 ((c 111 21) + 1)) u 8 = c 112 (640 + 16 * u + 8) := by
      show (zup (m_X7_lay (m_X7_lay (m_X7_lay (m_X7_lay c u 1 1) u 11 (m_X7_levelAt c u)) u 12 0) u 14 (c 111 21)) 111 21 ((c 111 21) + 1)) 112 (640 + 16 * u + 8) = _
      rw [zup_i _ _ _ (by decide), zlay_e _ (by decide) (by decide) (by omega), zlay_e _ (by decide) (by decide) (by omega), zlay_e _ (by decide) (by decide) (by omega), zlay_e _ (by decide) (by decide) (by omega)]
    rw [if_pos (a.trans h8), zlay_s] at p0
    exact absurd p0 (by decide)
  · rw [e1 0 (by decide) (Or.inl hv)] at p0
    rw [e1 1 (by decide) (Or.inl hv)] at p1
    exact (h u hu).1 p0 p1
theorem zfr.call2 {lo hi r r9 lo' hi' r' r8 : Nat} {c c' c'' : Nat → Nat → Int32} (h : zfr lo hi r r9 c c') (h2 : zfr lo' hi' r' r8 c' c'') (hb : ((lo ≤ lo' ∧ hi' ≤ hi) ∨ (r ≤ lo' ∧ hi' ≤ r9) ∨ hi' ≤ lo') ∧ ((r ≤ r' ∧ r8 ≤ r9) ∨ (lo ≤ r' ∧ r8 ≤ hi) ∨ r8 ≤ r')) : zfr lo hi r r9 c c'' := fun i h' => by
  rw [h2 i (by omega)]; exact h i h'
