theorem pP_wires : zP_wires zInv := by
  intro j c w en ea x hI hj hF hgw hF7 hg7
  have hI' := hI
  obtain ⟨g0, g1, g2, g2b, g3, g4, g5, g8, g9, g10, g11, g12, g13⟩ := hI'
  rcases rn_is g1 x with ⟨h1, h2, h3⟩ | ⟨h1, h2⟩
  · have hW : w_L_wires c w x = (0, c, va_up w 124 (c 10 (zn x)).toInt64) := by unfold w_L_wires m_X6_wires xb; rw [h1]
    have hR : m_X7_wires c x = (c 120 (zn x), zup c 111 12 0) := by unfold m_X7_wires; rw [h2, ck_one]; exact if_pos (show (0 : Int32) ≤ 0 by decide)
    rw [hW] at hg7 ⊢; dsimp only at hg7 ⊢; rw [hR] at hg7 ⊢
    exact q_ok hI hg7 ((g3 (zn x) h3).1.symm)
  · have hW : w_L_wires c w x = (1, c, w) := by unfold w_L_wires m_X6_wires xb; rw [h1]; show (nI (lcd _ _), _) = _; rw [lcd_h]; rfl
    have hR : m_X7_wires c x = (0, zup c 111 12 1) := by unfold m_X7_wires; rw [h2, ck_zero]; exact if_neg (show ¬ (1 : Int32) ≤ 0 by decide)
    rw [hW] at hg7 ⊢; dsimp only at hg7 ⊢; rw [hR] at hg7 ⊢
    exact q_bad hI hg7 (by decide)
theorem pP_nodeAt : zP_nodeAt zInv := by
  intro j c w en ea x hI hj hF hgw hF7 hg7
  have hI' := hI
  obtain ⟨g0, g1, g2, g2b, g3, g4, g5, g8, g9, g10, g11, g12, g13⟩ := hI'
  rcases rn_is g1 x with ⟨h1, h2, h3⟩ | ⟨h1, h2⟩
  · have hW : w_L_nodeAt c w x = (0, c, va_up w 124 (c 33 (zn x)).toInt64) := by unfold w_L_nodeAt m_X6_nodeAt xb; rw [h1]
    have hR : m_X7_nodeAt c x = (c 121 (zn x), zup c 111 12 0) := by unfold m_X7_nodeAt; rw [h2, ck_one]; exact if_pos (show (0 : Int32) ≤ 0 by decide)
    rw [hW] at hg7 ⊢; dsimp only at hg7 ⊢; rw [hR] at hg7 ⊢
    exact q_ok hI hg7 ((g4.1 (zn x) h3).1.symm)
  · have hW : w_L_nodeAt c w x = (1, c, w) := by unfold w_L_nodeAt m_X6_nodeAt xb; rw [h1]; show (nI (lcd _ _), _) = _; rw [lcd_h]; rfl
    have hR : m_X7_nodeAt c x = (0, zup c 111 12 1) := by unfold m_X7_nodeAt; rw [h2, ck_zero]; exact if_neg (show ¬ (1 : Int32) ≤ 0 by decide)
    rw [hW] at hg7 ⊢; dsimp only at hg7 ⊢; rw [hR] at hg7 ⊢
    exact q_bad hI hg7 (by decide)
theorem pP_outputOf : zP_outputOf zInv := by
  intro j c w en ea x hI hj hF hgw hF7 hg7
  have hI' := hI
  obtain ⟨g0, g1, g2, g2b, g3, g4, g5, g8, g9, g10, g11, g12, g13⟩ := hI'
  rcases rn_is g1 x with ⟨h1, h2, h3⟩ | ⟨h1, h2⟩
  · have hW : w_L_outputOf c w x = (0, c, va_up w 124 (c (34 + 22) (zn x)).toInt64) := by unfold w_L_outputOf m_X6_outputOf xb; rw [h1]
    have hR : m_X7_outputOf c x = (c 112 (630 + zn x), zup c 111 12 0) := by unfold m_X7_outputOf; rw [h2, ck_one]; exact if_pos (show (0 : Int32) ≤ 0 by decide)
    rw [hW] at hg7 ⊢; dsimp only at hg7 ⊢; rw [hR] at hg7 ⊢
    exact q_ok hI hg7 ((g11 (zn x) h3).1)
  · have hW : w_L_outputOf c w x = (1, c, w) := by unfold w_L_outputOf m_X6_outputOf xb; rw [h1]; show (nI (lcd _ _), _) = _; rw [lcd_h]; rfl
    have hR : m_X7_outputOf c x = (0, zup c 111 12 1) := by unfold m_X7_outputOf; rw [h2, ck_zero]; exact if_neg (show ¬ (1 : Int32) ≤ 0 by decide)
    rw [hW] at hg7 ⊢; dsimp only at hg7 ⊢; rw [hR] at hg7 ⊢
    exact q_bad hI hg7 (by decide)
theorem pP_kindOf : zP_kindOf zInv := by
  intro j c w en ea x hI hj hF hgw hF7 hg7
  have hI' := hI
  obtain ⟨g0, g1, g2, g2b, g3, g4, g5, g8, g9, g10, g11, g12, g13⟩ := hI'
  rcases rn_is g1 x with ⟨h1, h2, h3⟩ | ⟨h1, h2⟩
  · have hW : w_L_kindOf c w x = (0, c, va_up w 124 (c 2 (zn x)).toInt64) := by unfold w_L_kindOf m_X6_kindOf xb; rw [h1]
    have hR : m_X7_kindOf c x = (c 2 (zn x), zup c 111 12 0) := by
      unfold m_X7_kindOf; rw [h2, ck_one]
      rw [if_pos (show (0 : Int32) ≤ 0 by decide)]
      rcases (g2 (zn x) h3).1 with ⟨k1, k2⟩ | ⟨k1, k2⟩ | ⟨k1, k2⟩ | ⟨k1, k2⟩ | ⟨k1, k2⟩
      · rw [k1, k2]; rfl
      · rw [k1, k2]; rfl
      · rw [k1, k2]; rfl
      · rw [k1, k2]; rfl
      · rw [k1, k2]; rfl
    rw [hW] at hg7 ⊢; dsimp only at hg7 ⊢; rw [hR] at hg7 ⊢
    exact q_ok hI hg7 rfl
  · have hW : w_L_kindOf c w x = (1, c, w) := by unfold w_L_kindOf m_X6_kindOf xb; rw [h1]; show (nI (lcd _ _), _) = _; rw [lcd_h]; rfl
    have hR : m_X7_kindOf c x = (97, zup c 111 12 1) := by unfold m_X7_kindOf; rw [h2, ck_zero]; exact if_neg (show ¬ (1 : Int32) ≤ 0 by decide)
    rw [hW] at hg7 ⊢; dsimp only at hg7 ⊢; rw [hR] at hg7 ⊢
    exact q_bad hI hg7 (by decide)
theorem pP_wireFrom : zP_wireFrom zInv := by
  intro j c w en ea x y hI hj hF hgw hF7 hg7
  have hI' := hI
  obtain ⟨g0, g1, g2, g2b, g3, g4, g5, g8, g9, g10, g11, g12, g13⟩ := hI'
  rcases rn_is g1 x with ⟨h1, h2, h3⟩ | ⟨h1, h2⟩
  · rcases rw_is (g3 (zn x) h3).1 (g3 (zn x) h3).2.1 y with ⟨k1, k2, k3⟩ | ⟨k1, k2⟩
    · have hW : w_L_wireFrom c w x y = (0, c, va_up w 124 (c (12 + zn x) (zn y)).toInt64) := by unfold w_L_wireFrom m_X6_wireFrom xb; rw [h1]; dsimp only; rw [k1]
      have hN : m_X7_hasNoWire c x y = (0, zup c 111 12 0) := by unfold m_X7_hasNoWire; rw [h2, k2]; rfl
      have hR : m_X7_wireFrom c x y = (c 118 (4 * zn x + zn y), zup c 111 12 0) := by unfold m_X7_wireFrom; rw [hN]; exact if_pos rfl
      rw [hW] at hg7 ⊢; dsimp only at hg7 ⊢; rw [hR] at hg7 ⊢
      exact q_ok hI hg7 (((g3 (zn x) h3).2.2 (zn y) k3).1.symm)
    · have hW : w_L_wireFrom c w x y = (2, c, w) := by unfold w_L_wireFrom m_X6_wireFrom xb; rw [h1]; dsimp only; rw [k1]; show (nI (lcd _ _), _) = _; rw [lcd_s (by decide +kernel), lcd_h]; rfl
      have hN : m_X7_hasNoWire c x y = (1, zup c 111 12 2) := by unfold m_X7_hasNoWire; rw [h2, k2]; rfl
      have hR : m_X7_wireFrom c x y = (0, zup c 111 12 2) := by unfold m_X7_wireFrom; rw [hN]; exact if_neg (show ¬ (1 : Int32) = 0 by decide)
      rw [hW] at hg7 ⊢; dsimp only at hg7 ⊢; rw [hR] at hg7 ⊢
      exact q_bad hI hg7 (by decide)
  · have hW : w_L_wireFrom c w x y = (1, c, w) := by unfold w_L_wireFrom m_X6_wireFrom xb; rw [h1]; show (nI (lcd _ _), _) = _; rw [lcd_h]; rfl
    have hN : m_X7_hasNoWire c x y = (1, zup c 111 12 1) := by unfold m_X7_hasNoWire; rw [h2]; rfl
    have hR : m_X7_wireFrom c x y = (0, zup c 111 12 1) := by unfold m_X7_wireFrom; rw [hN]; exact if_neg (show ¬ (1 : Int32) = 0 by decide)
    rw [hW] at hg7 ⊢; dsimp only at hg7 ⊢; rw [hR] at hg7 ⊢
    exact q_bad hI hg7 (by decide)
theorem pP_wirePercent : zP_wirePercent zInv := by
  intro j c w en ea x y hI hj hF hgw hF7 hg7
  have hI' := hI
  obtain ⟨g0, g1, g2, g2b, g3, g4, g5, g8, g9, g10, g11, g12, g13⟩ := hI'
  rcases rn_is g1 x with ⟨h1, h2, h3⟩ | ⟨h1, h2⟩
  · rcases rw_is (g3 (zn x) h3).1 (g3 (zn x) h3).2.1 y with ⟨k1, k2, k3⟩ | ⟨k1, k2⟩
    · have hW : w_L_wirePercent c w x y = (0, c, va_up w 124 (c (23 + zn x) (zn y)).toInt64) := by unfold w_L_wirePercent m_X6_wirePercent xb; rw [h1]; dsimp only; rw [k1]
      have hN : m_X7_hasNoWire c x y = (0, zup c 111 12 0) := by unfold m_X7_hasNoWire; rw [h2, k2]; rfl
      have hR : m_X7_wirePercent c x y = (c 119 (4 * zn x + zn y), zup c 111 12 0) := by unfold m_X7_wirePercent; rw [hN]; exact if_pos rfl
      rw [hW] at hg7 ⊢; dsimp only at hg7 ⊢; rw [hR] at hg7 ⊢
      exact q_ok hI hg7 (((g3 (zn x) h3).2.2 (zn y) k3).2.1.symm)
    · have hW : w_L_wirePercent c w x y = (2, c, w) := by unfold w_L_wirePercent m_X6_wirePercent xb; rw [h1]; dsimp only; rw [k1]; show (nI (lcd _ _), _) = _; rw [lcd_s (by decide +kernel), lcd_h]; rfl
      have hN : m_X7_hasNoWire c x y = (1, zup c 111 12 2) := by unfold m_X7_hasNoWire; rw [h2, k2]; rfl
      have hR : m_X7_wirePercent c x y = (0, zup c 111 12 2) := by unfold m_X7_wirePercent; rw [hN]; exact if_neg (show ¬ (1 : Int32) = 0 by decide)
      rw [hW] at hg7 ⊢; dsimp only at hg7 ⊢; rw [hR] at hg7 ⊢
      exact q_bad hI hg7 (by decide)
  · have hW : w_L_wirePercent c w x y = (1, c, w) := by unfold w_L_wirePercent m_X6_wirePercent xb; rw [h1]; show (nI (lcd _ _), _) = _; rw [lcd_h]; rfl
    have hN : m_X7_hasNoWire c x y = (1, zup c 111 12 1) := by unfold m_X7_hasNoWire; rw [h2]; rfl
    have hR : m_X7_wirePercent c x y = (0, zup c 111 12 1) := by unfold m_X7_wirePercent; rw [hN]; exact if_neg (show ¬ (1 : Int32) = 0 by decide)
    rw [hW] at hg7 ⊢; dsimp only at hg7 ⊢; rw [hR] at hg7 ⊢
    exact q_bad hI hg7 (by decide)
