theorem pP_keyOf : zP_keyOf zInv := by
  intro j c w en ea x hI hj hF hgw hF7 hg7
  have hI' := hI
  obtain ⟨g0, g1, g2, g2b, g3, g4, g5, g8, g9, g10, g11, g12, g13⟩ := hI'
  rcases rv_is x with ⟨h1, h2, h3⟩ | ⟨h1, h2⟩
  · have V := g10 (zn x) h3
    by_cases h0 : c (34 + 3 + 2 * zn x) 0 = 0
    · have hfr : m_X6_refuseFree c (zn x) = .inl "java/lang/IllegalStateException" := by unfold m_X6_refuseFree; exact if_pos h0
      have hW : w_L_keyOf c w x = (2, c, w) := by unfold w_L_keyOf m_X6_keyOf xb; rw [h1]; dsimp only; rw [hfr]; show (nI (lcd _ _), _) = _; rw [lcd_s (by decide +kernel), lcd_h]; rfl
      have hS : m_X7_isSilent c x = (1, zup c 111 12 2) := by unfold m_X7_isSilent; rw [h2, V.plays, h0]; rfl
      have hR : m_X7_keyOf c x = (0, zup c 111 12 2) := by unfold m_X7_keyOf; rw [hS]; exact if_neg (show ¬ (1 : Int32) = 0 by decide)
      rw [hW] at hg7 ⊢; dsimp only at hg7 ⊢; rw [hR] at hg7 ⊢
      exact q_bad hI hg7 (by decide)
    · have hfr : m_X6_refuseFree c (zn x) = .inr () := by unfold m_X6_refuseFree; exact if_neg h0
      have hW : w_L_keyOf c w x = (0, c, va_up w 124 (c (34 + 3 + 2 * zn x) 2).toInt64) := by unfold w_L_keyOf m_X6_keyOf xb; rw [h1]; dsimp only; rw [hfr]
      have hS : m_X7_isSilent c x = (0, zup c 111 12 0) := by
        unfold m_X7_isSilent
        rw [h2, V.plays, if_neg (show ¬ (1 : Int32) = 0 by decide), if_neg h0]
      have hR : m_X7_keyOf c x = (c 112 (640 + 16 * zn x + 2), zup c 111 12 0) := by unfold m_X7_keyOf; rw [hS]; rw [if_pos rfl]; dsimp only; rw [at_th]; rfl
      rw [hW] at hg7 ⊢; dsimp only at hg7 ⊢; rw [hR] at hg7 ⊢
      obtain ⟨a1, a2, a3, a4, a5, a6, a7, e0, e1, e2, e3, b5, b6, b8, a8, a9, a10, a11, a12, a13, a14⟩ := V.2.2 (V.on h0).2
      exact q_ok hI hg7 a3
  · have hW : w_L_keyOf c w x = (1, c, w) := by unfold w_L_keyOf m_X6_keyOf xb; rw [h1]; show (nI (lcd _ _), _) = _; rw [lcd_h]; rfl
    have hS : m_X7_isSilent c x = (1, zup c 111 12 1) := by unfold m_X7_isSilent; rw [h2]; rfl
    have hR : m_X7_keyOf c x = (0, zup c 111 12 1) := by unfold m_X7_keyOf; rw [hS]; exact if_neg (show ¬ (1 : Int32) = 0 by decide)
    rw [hW] at hg7 ⊢; dsimp only at hg7 ⊢; rw [hR] at hg7 ⊢
    exact q_bad hI hg7 (by decide)
theorem pP_phaseOf : zP_phaseOf zInv := by
  intro j c w en ea x hI hj hF hgw hF7 hg7
  have hI' := hI
  obtain ⟨g0, g1, g2, g2b, g3, g4, g5, g8, g9, g10, g11, g12, g13⟩ := hI'
  rcases rv_is x with ⟨h1, h2, h3⟩ | ⟨h1, h2⟩
  · have V := g10 (zn x) h3
    by_cases h0 : c (34 + 3 + 2 * zn x) 0 = 0
    · have hfr : m_X6_refuseFree c (zn x) = .inl "java/lang/IllegalStateException" := by unfold m_X6_refuseFree; exact if_pos h0
      have hW : w_L_phaseOf c w x = (2, c, w) := by unfold w_L_phaseOf m_X6_phaseOf xb; rw [h1]; dsimp only; rw [hfr]; show (nI (lcd _ _), _) = _; rw [lcd_s (by decide +kernel), lcd_h]; rfl
      have hS : m_X7_isSilent c x = (1, zup c 111 12 2) := by unfold m_X7_isSilent; rw [h2, V.plays, h0]; rfl
      have hR : m_X7_phaseOf c x = (0, zup c 111 12 2) := by unfold m_X7_phaseOf; rw [hS]; exact if_neg (show ¬ (1 : Int32) = 0 by decide)
      rw [hW] at hg7 ⊢; dsimp only at hg7 ⊢; rw [hR] at hg7 ⊢
      exact q_bad hI hg7 (by decide)
    · have hfr : m_X6_refuseFree c (zn x) = .inr () := by unfold m_X6_refuseFree; exact if_neg h0
      have hW : w_L_phaseOf c w x = (0, c, va_up w 124 (c (34 + 3 + 2 * zn x) 7).toInt64) := by unfold w_L_phaseOf m_X6_phaseOf xb; rw [h1]; dsimp only; rw [hfr]
      have hS : m_X7_isSilent c x = (0, zup c 111 12 0) := by
        unfold m_X7_isSilent
        rw [h2, V.plays, if_neg (show ¬ (1 : Int32) = 0 by decide), if_neg h0]
      have hR : m_X7_phaseOf c x = (c 112 (640 + 16 * zn x + 9), zup c 111 12 0) := by unfold m_X7_phaseOf; rw [hS]; rw [if_pos rfl]; dsimp only; rw [at_th]; rfl
      rw [hW] at hg7 ⊢; dsimp only at hg7 ⊢; rw [hR] at hg7 ⊢
      obtain ⟨a1, a2, a3, a4, a5, a6, a7, e0, e1, e2, e3, b5, b6, b8, a8, a9, a10, a11, a12, a13, a14⟩ := V.2.2 (V.on h0).2
      exact q_ok hI hg7 a9
  · have hW : w_L_phaseOf c w x = (1, c, w) := by unfold w_L_phaseOf m_X6_phaseOf xb; rw [h1]; show (nI (lcd _ _), _) = _; rw [lcd_h]; rfl
    have hS : m_X7_isSilent c x = (1, zup c 111 12 1) := by unfold m_X7_isSilent; rw [h2]; rfl
    have hR : m_X7_phaseOf c x = (0, zup c 111 12 1) := by unfold m_X7_phaseOf; rw [hS]; exact if_neg (show ¬ (1 : Int32) = 0 by decide)
    rw [hW] at hg7 ⊢; dsimp only at hg7 ⊢; rw [hR] at hg7 ⊢
    exact q_bad hI hg7 (by decide)
theorem pP_levelOf : zP_levelOf zInv := by
  intro j c w en ea x hI hj hF hgw hF7 hg7
  have hI' := hI
  obtain ⟨g0, g1, g2, g2b, g3, g4, g5, g8, g9, g10, g11, g12, g13⟩ := hI'
  rcases rv_is x with ⟨h1, h2, h3⟩ | ⟨h1, h2⟩
  · have V := g10 (zn x) h3
    have hT := (g13.2.2 (zn x) h3).2.1
    have hW : w_L_levelOf c w ea x = (0, c, va_up w 124 (m_X5_level c ea 34 (zn x)).toInt64) := by unfold w_L_levelOf m_X6_levelOf xb; rw [h1]
    have hR : m_X7_levelOf c x = (m_X7_levelAt c (zn x), zup c 111 12 0) := by unfold m_X7_levelOf; rw [h2, ck_one]; rw [if_pos (show (0 : Int32) ≤ 0 by decide)]; dsimp only; rw [levelAt_th]
    rw [hW] at hg7 ⊢; dsimp only at hg7 ⊢; rw [hR] at hg7 ⊢
    exact q_ok hI hg7 (level_eq V hT (by omega))
  · have hW : w_L_levelOf c w ea x = (1, c, w) := by unfold w_L_levelOf m_X6_levelOf xb; rw [h1]; show (nI (lcd _ _), _) = _; rw [lcd_h]; rfl
    have hR : m_X7_levelOf c x = (0, zup c 111 12 1) := by unfold m_X7_levelOf; rw [h2, ck_zero]; exact if_neg (show ¬ (1 : Int32) ≤ 0 by decide)
    rw [hW] at hg7 ⊢; dsimp only at hg7 ⊢; rw [hR] at hg7 ⊢
    exact q_bad hI hg7 (by decide)
theorem stage_eq {o v T m : Nat} {c ea c' : Nat → Nat → Int32} (h : zVp (c (o + 3 + 2 * v)) (ea (o + 3 + 2 * v)) (fun q => c' 112 (640 + 16 * v + q)) m) (hT : zn (c' 112 (640 + 16 * v + 10)) ≤ T) (hT2 : T < 2 ^ 30) : m_X5_stage c ea o v = if m_X7_plays c' v = 0 then 102 else if m_X7_isReleased c' v = 0 then (if m_X7_at c' v 5 ≤ m_X7_at c' v 10 then (if m_X7_at c' v 5 + m_X7_at c' v 6 ≤ m_X7_at c' v 10 then 115 else 100) else 97) else 114 := by
  unfold m_X5_stage
  rw [h.plays]
  by_cases h0 : c (o + 3 + 2 * v) 0 = 0
  · rw [if_pos h0, if_pos h0]
  · rw [if_neg h0, if_neg h0, h.rel h0]
    obtain ⟨_, _, h3⟩ := id h
    obtain ⟨a1, a2, a3, a4, a5, a6, a7, e0, e1, e2, e3, b5, b6, b8, a8, a9, a10, a11, a12, a13, a14⟩ := h3 (h.on h0).2
    dsimp only at a13 e0 e1 e2 e3 b5 b6 b8
    rw [e0, e1, a13]
    unfold m_X7_at
    by_cases h1 : c (o + 3 + 2 * v) 1 = 0
    · rw [if_pos h1, if_pos h1]
      by_cases k1 : c' 112 (640 + 16 * v + 5) ≤ c' 112 (640 + 16 * v + 10)
      · rw [if_pos k1, if_pos k1]
        have k4 := (z_le (zn_eq _) (zn_eq _) (by omega) (by omega)).mp k1
        have k5 : (c' 112 (640 + 16 * v + 6) ≤ c' 112 (640 + 16 * v + 10) - c' 112 (640 + 16 * v + 5)) ↔ (c' 112 (640 + 16 * v + 5) + c' 112 (640 + 16 * v + 6) ≤ c' 112 (640 + 16 * v + 10)) := by
          rw [zsub k4, z_le (zn_eq _) rfl (by omega) (by omega), zadl (zn_eq (c' 112 (640 + 16 * v + 5))), z_le rfl (zn_eq (c' 112 (640 + 16 * v + 10))) (by omega) (by omega)]
          omega
        by_cases k6 : c' 112 (640 + 16 * v + 6) ≤ c' 112 (640 + 16 * v + 10) - c' 112 (640 + 16 * v + 5)
        · rw [if_pos k6, if_pos (k5.mp k6)]
        · rw [if_neg k6, if_neg (fun q => k6 (k5.mpr q))]
      · rw [if_neg k1, if_neg k1]
    · rw [if_neg h1, if_neg h1]
theorem pP_stateOf : zP_stateOf zInv := by
  intro j c w en ea x hI hj hF hgw hF7 hg7
  have hI' := hI
  obtain ⟨g0, g1, g2, g2b, g3, g4, g5, g8, g9, g10, g11, g12, g13⟩ := hI'
  rcases rv_is x with ⟨h1, h2, h3⟩ | ⟨h1, h2⟩
  · have V := g10 (zn x) h3
    have hT := (g13.2.2 (zn x) h3).2.1
    have hW : w_L_stateOf c w ea x = (0, c, va_up w 124 (m_X5_stage c ea 34 (zn x)).toInt64) := by unfold w_L_stateOf m_X6_stateOf xb; rw [h1]
    have hR : m_X7_stateOf c x = (m_X5_stage c ea 34 (zn x), zup c 111 12 0) := by
      rw [stage_eq V hT (by omega)]
      unfold m_X7_stateOf; rw [h2, ck_one]; rw [if_pos (show (0 : Int32) ≤ 0 by decide)]; dsimp only; rw [plays_th, isReleased_th, at_th, at_th, at_th]
      by_cases q1 : m_X7_plays c (zn x) = 0
      · rw [if_pos q1, if_pos q1]
      · rw [if_neg q1, if_neg q1]
        by_cases q2 : m_X7_isReleased c (zn x) = 0
        · rw [if_pos q2, if_pos q2]
          by_cases q3 : m_X7_at c (zn x) 5 ≤ m_X7_at c (zn x) 10
          · rw [if_pos q3, if_pos q3]
            by_cases q4 : m_X7_at c (zn x) 5 + m_X7_at c (zn x) 6 ≤ m_X7_at c (zn x) 10
            · rw [if_pos q4, if_pos q4]
            · rw [if_neg q4, if_neg q4]
          · rw [if_neg q3, if_neg q3]
        · rw [if_neg q2, if_neg q2]
    rw [hW] at hg7 ⊢; dsimp only at hg7 ⊢; rw [hR] at hg7 ⊢
    exact q_ok hI hg7 rfl
  · have hW : w_L_stateOf c w ea x = (1, c, w) := by unfold w_L_stateOf m_X6_stateOf xb; rw [h1]; show (nI (lcd _ _), _) = _; rw [lcd_h]; rfl
    have hR : m_X7_stateOf c x = (97, zup c 111 12 1) := by unfold m_X7_stateOf; rw [h2, ck_zero]; exact if_neg (show ¬ (1 : Int32) ≤ 0 by decide)
    rw [hW] at hg7 ⊢; dsimp only at hg7 ⊢; rw [hR] at hg7 ⊢
    exact q_bad hI hg7 (by decide)
theorem pP_sounding : zP_sounding zInv := by
  intro j c w en ea hI hj hF hg
  have hI' := hI
  obtain ⟨g0, g1, g2, g2b, g3, g4, g5, g8, g9, g10, g11, g12, g13⟩ := hI'
  have g : ∀ (n i : Nat) (x : Int32), i + n = 4 → g1_X7_sounding c n i x (fun i x => ((m_X7_plain c x).1, (m_X7_plain c x).2)) = (g1_X1_countPlaying c 34 n i x (fun i x => x), zup c 111 12 0) := by
    intro n
    induction n with
    | zero => intro i x _; rfl
    | succ n ih =>
      intro i x hi
      have V := g10 i (by omega)
      rw [g1_X7_sounding, g1_X1_countPlaying, V.plays, Int32.add_zero, ih _ _ (by omega), ih _ _ (by omega)]
      by_cases q : c (34 + 3 + 2 * i) 0 = 0
      · rw [if_pos q, if_pos q]
      · rw [if_neg q, if_neg q]
  have hR : m_X7_sounding c = (m_X6_sounding c, zup c 111 12 0) := g 4 0 0 (by omega)
  rw [hR] at hg ⊢
  exact q_dir hI hg rfl
theorem pP_longestBlock : zP_longestBlock zInv := by
  intro j c w en ea hI hj hF hg
  have hI' := hI
  obtain ⟨g0, g1, g2, g2b, g3, g4, g5, g8, g9, g10, g11, g12, g13⟩ := hI'
  have g : ∀ (n i : Nat) (x : Int32), i + n = zn (c 1 0) → g1_X7_longestBlock c n i x (fun i x => ((m_X7_plain c x).1, (m_X7_plain c x).2)) = (g1_X0_shortestDelay c n i x (fun i x => x), zup c 111 12 0) := by
    intro n
    induction n with
    | zero => intro i x _; rfl
    | succ n ih =>
      intro i x hi
      have K := g2 i (by omega)
      rw [g1_X7_longestBlock, g1_X0_shortestDelay, ih _ _ (by omega), ih _ _ (by omega)]
      rcases K.1 with ⟨k1, k2⟩ | ⟨k1, k2⟩ | ⟨k1, k2⟩ | ⟨k1, k2⟩ | ⟨k1, k2⟩
      · rw [k1, k2]; rfl
      · rw [k1, k2]; rfl
      · rw [k1, k2, (K.2.2.2.1 k2).1, if_pos rfl, if_pos rfl]
        unfold zmin
        by_cases q : x ≤ c 4 i
        · rw [if_pos q, if_neg (Int32.not_lt.mpr q)]
        · rw [if_neg q, if_pos (Int32.not_le.mp q)]
      · rw [k1, k2]; rfl
      · rw [k1, k2]; rfl
  have hR : m_X7_longestBlock c = (m_X6_longestBlock c, zup c 111 12 0) := by
    unfold m_X7_longestBlock m_X6_longestBlock m_X0_shortestDelay
    rw [g1.1]
    exact g _ 0 64 (by omega)
  rw [hR] at hg ⊢
  exact q_dir hI hg rfl
theorem zand63 {x : Int32} : zn (x &&& 63) = zn x % 64 := by
  show (x &&& 63).toUInt32.toNat = x.toUInt32.toNat % 64
  have e : (x &&& 63).toUInt32 = x.toUInt32 &&& 63 := rfl
  rw [e, UInt32.toNat_and]
  exact Nat.and_two_pow_sub_one_eq_mod _ 6
theorem pP_heard : zP_heard zInv := by
  intro j c w en ea x hI hj hF hgw hF7 hg7
  have hI' := hI
  obtain ⟨g0, g1, g2, g2b, g3, g4, g5, g8, g9, g10, g11, g12, g13⟩ := hI'
  have ht := g13.1
  rcases ro_in x 0 63 with ⟨h1, h2, h3, h4⟩ | ⟨h1, h2⟩
  · by_cases h5 : x < c 106 1
    · have hW : w_L_heard c w x = (0, c, va_up w 124 (m_X3_recall c x).toInt64) := by unfold w_L_heard m_X6_heard xb; rw [h1]; dsimp only; rw [if_pos h5]
      have hR : m_X7_heard c x = (c 122 ((zn (c 111 22) - 1 - zn x) % 64), zup c 111 12 0) := by unfold m_X7_heard; rw [h2, if_neg (show ¬ (1 : Int32) = 0 by decide), g8.1, if_pos h5]
      rw [hW] at hg7 ⊢; dsimp only at hg7 ⊢; rw [hR] at hg7 ⊢
      refine q_ok hI hg7 ?_
      have hr := zn_rng (a := 0) (b' := 63) rfl rfl (by decide) (by decide) h3 h4
      have e1 : zn (c 106 1) ≤ 64 * j := by rw [← g8.1]; exact ht
      have hlt := (z_lt (zn_eq x) (zn_eq (c 106 1)) (by omega) (by omega)).mp h5
      unfold m_X3_recall
      rw [zand63, g8.1, zsub (x := c 106 1 - 1) (y := x) (by rw [zn_pred (by omega), zn_nI (by omega)]; omega), zn_pred (by omega), zn_nI (n := zn (c 106 1) - 1) (by omega), zn_nI (by omega)]
      exact (g8.2.2.2.2 _ (Nat.mod_lt _ (by decide))).symm
    · have hW : w_L_heard c w x = (2, c, w) := by unfold w_L_heard m_X6_heard xb; rw [h1]; dsimp only; rw [if_neg h5]; show (nI (lcd _ _), _) = _; rw [lcd_s (by decide +kernel), lcd_h]; rfl
      have hR : m_X7_heard c x = (0, zup c 111 12 2) := by unfold m_X7_heard; rw [h2, if_neg (show ¬ (1 : Int32) = 0 by decide), g8.1, if_neg h5]
      rw [hW] at hg7 ⊢; dsimp only at hg7 ⊢; rw [hR] at hg7 ⊢
      exact q_bad hI hg7 (by decide)
  · have hW : w_L_heard c w x = (1, c, w) := by unfold w_L_heard m_X6_heard xb; rw [h1]; show (nI (lcd _ _), _) = _; rw [lcd_h]; rfl
    have hR : m_X7_heard c x = (0, zup c 111 12 1) := by unfold m_X7_heard; rw [h2]; exact if_pos rfl
    rw [hW] at hg7 ⊢; dsimp only at hg7 ⊢; rw [hR] at hg7 ⊢
    exact q_bad hI hg7 (by decide)
