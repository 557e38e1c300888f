theorem fs1_ok (c : Nat → Nat → Int32) (z : Nat) (K : Nat → (Nat → Nat → Int32) → Int32 × (Nat → Nat → Int32)) : ∀ (n i : Nat) (c1 : Nat → Nat → Int32), ∃ C i', g1_X7_foreseen c z n i c1 K = K i' C ∧ ∀ x, x ≠ 113 → C x = c1 x := by
  intro n
  induction n with
  | zero => intro i c1; exact ⟨c1, i, rfl, fun _ _ => rfl⟩
  | succ n ih =>
    intro i c1
    obtain ⟨C, i', e, h⟩ := ih (i + 1) (zup c1 113 i (c 112 i))
    exact ⟨C, i', by rw [g1_X7_foreseen]; exact e, fun x hx => by rw [h x hx, zup_i _ _ _ hx]⟩
theorem fs3_ok (c : Nat → Nat → Int32) (z : Nat) (K : Nat → (Nat → Nat → Int32) → Int32 × (Nat → Nat → Int32)) : ∀ (n i : Nat) (c1 : Nat → Nat → Int32), ∃ C i', g3_X7_foreseen c z n i c1 K = K i' C ∧ ∀ x, x ≠ 112 → C x = c1 x := by
  intro n
  induction n with
  | zero => intro i c1; exact ⟨c1, i, rfl, fun _ _ => rfl⟩
  | succ n ih =>
    intro i c1
    obtain ⟨C, i', e, h⟩ := ih (i + 1) (zup c1 112 i (c1 113 i))
    exact ⟨C, i', by rw [g3_X7_foreseen]; exact e, fun x hx => by rw [h x hx, zup_i _ _ _ hx]⟩
theorem fs2_ok (c : Nat → Nat → Int32) (z : Nat) (S : Nat → Nat → Int32) (K : Nat → Int32 → (Nat → Nat → Int32) → Int32 × (Nat → Nat → Int32)) : ∀ (n i : Nat) (y : Int32), g2_X7_foreseen c z (n + 1) i y (mN S i) K = K (i + n + 1) ((m_X7_samples (mN S (i + n))).1) (mN S (i + n + 1)) := by
  intro n
  induction n with
  | zero => intro i y; rfl
  | succ n ih =>
    intro i y
    rw [g2_X7_foreseen, show i + (n + 1) = i + 1 + n by omega]
    exact ih (i + 1) _
theorem foreseen_is (S : Nat → Nat → Int32) {z : Nat} (hz : 1 ≤ z) : ∃ S1, (∀ x, x ≠ 113 → S1 x = S x) ∧ (m_X7_foreseen S z).1 = (m_X7_samples (mN S1 (z - 1))).1 ∧ ∀ x, x ≠ 112 → (m_X7_foreseen S z).2 x = mN S1 z x := by
  obtain ⟨C, i', e, h⟩ := fs1_ok S z (fun _ c1 => g2_X7_foreseen S z z 0 0 c1 (fun _ x c2 => g3_X7_foreseen S z 704 0 c2 (fun _ c3 => (x, c3)))) 704 0 S
  have e2 := fs2_ok S z C (fun _ x c2 => g3_X7_foreseen S z 704 0 c2 (fun _ c3 => (x, c3))) (z - 1) 0 0
  rw [Nat.zero_add, show z - 1 + 1 = z by omega] at e2
  obtain ⟨D, k', e3, h3⟩ := fs3_ok S z (fun _ c3 => ((m_X7_samples (mN C (z - 1))).1, c3)) 704 0 (mN C z)
  have hh : m_X7_foreseen S z = ((m_X7_samples (mN C (z - 1))).1, D) := by
    unfold m_X7_foreseen
    rw [e]
    exact e2.trans e3
  refine ⟨C, h, by rw [hh], fun x hx => by rw [hh]; exact h3 x hx⟩
theorem ahead_gen {j : Nat} {c S0 : Nat → Nat → Int32} {w : Nat → Int64} {en : Nat → Nat} {ea : Nat → Nat → Int32} {z y r : Nat} (hI : zInv j c w ea) (hj : j < 512) (hz1 : 1 ≤ z) (hz : z ≤ 64) (hy : y ≤ 64) (hr : 106 ≤ r) (hr2 : r < 114) (hS : ∀ x, 110 ≤ x → x ≠ 111 → S0 x = c x) (hS1 : ∀ k, k ≠ 12 → S0 111 k = c 111 k) : (m_X6_lookAhead c en ea z y r).1 r (z - 1) = (m_X7_foreseen S0 z).1 ∧ (m_X7_foreseen S0 z).2 111 = S0 111 ∧ (∀ k, (∀ v, v < 4 → k ≠ 70 + 3 + 2 * v) → (m_X6_lookAhead c en ea z y r).2.2 k = ea k) := by
  obtain ⟨g0, g1, g2, g2b, g3, g4, g5, g8, g9, g10, g11, g12, b1, b2, b3⟩ := hI
  obtain ⟨S1, s1, s2, s3⟩ := foreseen_is S0 hz1
  have e : zSg c S1 := ⟨by rw [s1 111 (by decide)]; exact hS1 13 (by decide), by rw [s1 111 (by decide)]; exact hS1 14 (by decide), fun x h1 h2 => by rw [s1 x (by omega)]; exact hS x (by omega) (by omega)⟩
  have r0 : S1 112 = c 112 := by rw [s1 112 (by decide)]; exact hS 112 (by decide) (by decide)
  have hD : zDp c (S1 112) := by rw [r0]; exact inv_dp g2 g11
  have sm : ∀ i, zSm c (mN S1 i 112) (mN S1 (i + 1) 112) := fun i => (mseq_sm g1 g2 g3 g4 e hD i).1
  have R0 : mN S1 0 112 = c 112 := r0
  have s10 := seq_10 (R := fun i => mN S1 i 112) (T := 4000 * j) sm (by omega) (fun v hv => by show zn (mN S1 0 112 (640 + 16 * v + 10)) ≤ _; rw [R0]; exact (b3 v hv).2.1)
  obtain ⟨l1, l2, l3⟩ := look_ok (c := c) (C := c) (ea := ea) (en := en) (z := z) (y := y) (r := r) (T := 4000 * j + 64) (m0 := zn (c 111 21)) (R := fun i => mN S1 i 112) hr hr2 g1 g2 g3 g4 (fun _ _ => rfl) rfl hz hy (fun i _ => sm i) (fun i hi v hv => by have := s10 i (by omega) v hv; omega) (by omega) (by show zTr 34 c (mN S1 0 112); rw [R0]; exact g11) (by show zVo 34 c ea (mN S1 0 112) _; rw [R0]; exact g10)
  refine ⟨?_, ?_, l3⟩
  · rw [l1 (z - 1) (by omega), s2, (mseq_sm g1 g2 g3 g4 e hD (z - 1)).2, g1.2.2.2.1]
  · rw [s3 111 (by decide), (mseq_ok g1 g2 g3 g4 e hD z).2.2 111 (by decide), s1 111 (by decide)]
/-- after looking ahead all that counts is as before -/
theorem ahead_inv {j r r9 : Nat} {c C D : Nat → Nat → Int32} {w w' : Nat → Int64} {ea ea' : Nat → Nat → Int32} (hI : zInv j c w ea) (hr : 108 ≤ r) (hr2 : r9 ≤ 110) (hFw : zfr 70 106 r r9 c C) (hF7 : zfr 111 114 111 111 C D) (h1 : ∀ k, k ≠ 12 → D 111 k = c 111 k) (h2 : ∀ q, q < 704 → D 112 q = C 112 q) (hg : zG D) (hw : w' 106 = w 106 ∧ w' 111 = w 111) (he : ∀ k, (∀ v, v < 4 → k ≠ 70 + 3 + 2 * v) → ea' k = ea k) : zInv (j + 1) D w' ea' := by
  refine hI.congr (fun i k h => ?_) hg hw ⟨he 0 (fun v hv => by omega), fun v hv => he _ (fun u hu => by omega)⟩
  have h' : (i < 70 ∨ 106 ≤ i) ∧ i ≠ 108 ∧ i ≠ 109 ∧ i ≠ 113 ∧ i ≠ 123 ∧ ¬ (i = 111 ∧ k = 12) ∧ (i = 112 → k < 704) := h
  have hc : C i = c i := hFw i (by omega)
  by_cases e1 : i = 111
  · subst e1; exact h1 k (by omega)
  · by_cases e2 : i = 112
    · subst e2; rw [h2 k (by omega), hc]
    · rw [hF7 i (by omega), hc]
theorem pP_ahead : zP_ahead zInv := by
  intro j c w en ea x hI hj
  rcases ro_in x 1 40 with ⟨h1, h2, h3, h4⟩ | ⟨h1, h2⟩
  · have hx := zn_rng (a := 1) (b' := 40) rfl rfl (by decide) (by decide) h3 h4
    have hM : m_X6_ahead c en ea x = .inr (((m_X6_lookAhead c en ea (zn x) 1 108).1) 108 (zn x - 1), (m_X6_lookAhead c en ea (zn x) 1 108).1, (m_X6_lookAhead c en ea (zn x) 1 108).2.1, (m_X6_lookAhead c en ea (zn x) 1 108).2.2) := by unfold m_X6_ahead xb; rw [h1]
    have hW : w_L_ahead c w en ea x = (0, (m_X6_lookAhead c en ea (zn x) 1 108).1, va_up w 124 (((m_X6_lookAhead c en ea (zn x) 1 108).1) 108 (zn x - 1)).toInt64, (m_X6_lookAhead c en ea (zn x) 1 108).2.1, (m_X6_lookAhead c en ea (zn x) 1 108).2.2) := by unfold w_L_ahead; rw [hM]
    have key := fun (S0 : Nat → Nat → Int32) => ahead_gen (S0 := S0) (en := en) (y := 1) (r := 108) hI hj hx.1 (show zn x ≤ 64 by omega) (by decide) (by decide) (by decide)
    rw [hW]
    generalize m_X6_lookAhead c en ea (zn x) 1 108 = P at key ⊢
    obtain ⟨C, en', ea'⟩ := P
    intro hFw hgw hF7 hg7 h7
    dsimp only at hFw hgw hF7 hg7 h7 key ⊢
    have hf : ∀ i, 110 ≤ i → C i = c i := fun i hi => hFw i (by omega)
    obtain ⟨k1, k2, k3⟩ := key (zup C 111 12 0) (fun i hi hi2 => by rw [zup_i _ _ _ hi2]; exact hf i hi) (fun k hk => by rw [zup_k _ _ hk, hf 111 (by decide)])
    have hR : m_X7_ahead C x = ((m_X7_foreseen (zup C 111 12 0) (zn x)).1, (m_X7_foreseen (zup C 111 12 0) (zn x)).2) := by
      unfold m_X7_ahead
      rw [h2, ck_one]
      exact if_pos (show (0 : Int32) ≤ 0 by decide)
    rw [hR] at hF7 hg7 h7 ⊢
    dsimp only at hF7 hg7 h7 ⊢
    refine ⟨by rw [k2, zup_s], fun _ => by rw [va_up_self, k1], ahead_inv hI (by decide) (by decide) hFw hF7 (fun k hk => ?_) h7 hg7 ⟨va_up_ne _ _ (by decide), va_up_ne _ _ (by decide)⟩ k3⟩
    rw [k2, zup_k _ _ hk, hf 111 (by decide)]
  · have hM : m_X6_ahead c en ea x = .inl "java/lang/IllegalArgumentException" := by unfold m_X6_ahead xb; rw [h1]
    have hW : w_L_ahead c w en ea x = (1, c, w, en, ea) := by unfold w_L_ahead; rw [hM]; show (nI (lcd _ _), _) = _; rw [lcd_h]; rfl
    have hR : m_X7_ahead c x = (0, zup c 111 12 1) := by unfold m_X7_ahead; rw [h2, ck_zero]; exact if_neg (show ¬ (1 : Int32) ≤ 0 by decide)
    rw [hW]
    intro hFw hgw hF7 hg7 h7
    dsimp only at hg7 ⊢
    rw [hR] at hg7 ⊢
    exact q_bad hI hg7 (by decide)
theorem pP_aheadByBlocks : zP_aheadByBlocks zInv := by
  intro j c w en ea x y hI hj
  have tn : ¬ (1 : Int32) = 0 := by decide
  have bad : m_X6_aheadByBlocks c en ea x y = .inl "java/lang/IllegalArgumentException" → m_X7_aheadByBlocks c x y = (0, zup c 111 12 1) → (zfr 70 106 109 110 c ((w_L_aheadByBlocks c w en ea x y).2.1) → zG ((w_L_aheadByBlocks c w en ea x y).2.1) → zfr 111 114 111 111 ((w_L_aheadByBlocks c w en ea x y).2.1) ((m_X7_aheadByBlocks ((w_L_aheadByBlocks c w en ea x y).2.1) x y).2) → zG ((m_X7_aheadByBlocks ((w_L_aheadByBlocks c w en ea x y).2.1) x y).2) → (∀ q, q < 704 → ((m_X7_aheadByBlocks ((w_L_aheadByBlocks c w en ea x y).2.1) x y).2) 112 q = ((w_L_aheadByBlocks c w en ea x y).2.1) 112 q) → ((m_X7_aheadByBlocks ((w_L_aheadByBlocks c w en ea x y).2.1) x y).2) 111 12 = (w_L_aheadByBlocks c w en ea x y).1 ∧ ((w_L_aheadByBlocks c w en ea x y).1 = 0 → ((w_L_aheadByBlocks c w en ea x y).2.2.1) 124 = ((m_X7_aheadByBlocks ((w_L_aheadByBlocks c w en ea x y).2.1) x y).1).toInt64) ∧ zInv (j + 1) ((m_X7_aheadByBlocks ((w_L_aheadByBlocks c w en ea x y).2.1) x y).2) ((w_L_aheadByBlocks c w en ea x y).2.2.1) ((w_L_aheadByBlocks c w en ea x y).2.2.2.2)) := by
    intro hM hR
    have hW : w_L_aheadByBlocks c w en ea x y = (1, c, w, en, ea) := by unfold w_L_aheadByBlocks; rw [hM]; show (nI (lcd _ _), _) = _; rw [lcd_h]; rfl
    rw [hW]
    intro hFw hgw hF7 hg7 h7
    dsimp only at hg7 ⊢
    rw [hR] at hg7 ⊢
    exact q_bad hI hg7 (by decide)
  rcases ro_in x 1 40 with ⟨h1, h2, h3, h4⟩ | ⟨h1, h2⟩
  · rcases ro_in y 1 64 with ⟨i1, i2, i3, i4⟩ | ⟨i1, i2⟩
    · have hx := zn_rng (a := 1) (b' := 40) rfl rfl (by decide) (by decide) h3 h4
      have hy := zn_rng (a := 1) (b' := 64) rfl rfl (by decide) (by decide) i3 i4
      have hM : m_X6_aheadByBlocks c en ea x y = .inr (((m_X6_lookAhead c en ea (zn x) (zn y) 109).1) 109 (zn x - 1), (m_X6_lookAhead c en ea (zn x) (zn y) 109).1, (m_X6_lookAhead c en ea (zn x) (zn y) 109).2.1, (m_X6_lookAhead c en ea (zn x) (zn y) 109).2.2) := by unfold m_X6_aheadByBlocks xb; rw [h1]; dsimp only; rw [i1]
      have hW : w_L_aheadByBlocks c w en ea x y = (0, (m_X6_lookAhead c en ea (zn x) (zn y) 109).1, va_up w 124 (((m_X6_lookAhead c en ea (zn x) (zn y) 109).1) 109 (zn x - 1)).toInt64, (m_X6_lookAhead c en ea (zn x) (zn y) 109).2.1, (m_X6_lookAhead c en ea (zn x) (zn y) 109).2.2) := by unfold w_L_aheadByBlocks; rw [hM]
      have key := fun (S0 : Nat → Nat → Int32) => ahead_gen (S0 := S0) (en := en) (y := zn y) (r := 109) hI hj hx.1 (show zn x ≤ 64 by omega) hy.2 (by decide) (by decide)
      rw [hW]
      generalize m_X6_lookAhead c en ea (zn x) (zn y) 109 = P at key ⊢
      obtain ⟨C, en', ea'⟩ := P
      intro hFw hgw hF7 hg7 h7
      dsimp only at hFw hgw hF7 hg7 h7 key ⊢
      have hf : ∀ i, 110 ≤ i → C i = c i := fun i hi => hFw i (by omega)
      obtain ⟨k1, k2, k3⟩ := key (zup C 111 12 0) (fun i hi hi2 => by rw [zup_i _ _ _ hi2]; exact hf i hi) (fun k hk => by rw [zup_k _ _ hk, hf 111 (by decide)])
      have hR : m_X7_aheadByBlocks C x y = ((m_X7_foreseen (zup C 111 12 0) (zn x)).1, (m_X7_foreseen (zup C 111 12 0) (zn x)).2) := by
        unfold m_X7_aheadByBlocks
        rw [h2, if_neg tn, i2, if_neg tn, ck_one]
      rw [hR] at hF7 hg7 h7 ⊢
      dsimp only at hF7 hg7 h7 ⊢
      refine ⟨by rw [k2, zup_s], fun _ => by rw [va_up_self, k1], ahead_inv hI (by decide) (by decide) hFw hF7 (fun k hk => ?_) h7 hg7 ⟨va_up_ne _ _ (by decide), va_up_ne _ _ (by decide)⟩ k3⟩
      rw [k2, zup_k _ _ hk, hf 111 (by decide)]
    · exact bad (by unfold m_X6_aheadByBlocks xb; rw [h1]; dsimp only; rw [i1]) (by unfold m_X7_aheadByBlocks; rw [h2, if_neg tn, i2, if_pos rfl, ck_zero])
  · exact bad (by unfold m_X6_aheadByBlocks xb; rw [h1]) (by unfold m_X7_aheadByBlocks; rw [h2, if_pos rfl, ck_zero])
