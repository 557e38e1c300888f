theorem pP_setOutput : zP_setOutput zInv := by
  intro j c w en ea x hI hj hF hgw hF7 hg7
  have hI' := hI
  obtain ⟨g0, g1, g2, g2b, g3, g4, g5, g8, g9, g10, g11, g12, g13⟩ := hI'
  have h10 := g1.2.2.1
  rcases rn_is g1 x with ⟨h1, h2, h3⟩ | ⟨h1, h2⟩
  · have hW : w_L_setOutput c w x = (0, zup c 1 1 x, va_up w 124 (c 1 1).toInt64) := by unfold w_L_setOutput m_X6_setOutput xb; rw [h1]
    have h2' : m_X7_isNode (zup c 1 1 x) x = 1 := by unfold m_X7_isNode at h2 ⊢; rw [zup_i _ _ _ (by decide)]; exact h2
    have hR : m_X7_setOutput (zup c 1 1 x) x = (c 1 1, zup (zup (zup c 1 1 x) 111 12 0) 111 14 x) := by
      unfold m_X7_setOutput; rw [h2', ck_one]; rw [if_pos (show (0 : Int32) ≤ 0 by decide)]
      dsimp only
      rw [zup_k _ _ (by decide), zup_i _ _ _ (by decide), g1.2.2.2.1]
    rw [hW] at hg7 ⊢; dsimp only at hg7 ⊢; rw [hR] at hg7 ⊢; dsimp only at hg7 ⊢
    have H : ∀ i k, ¬ (i = 1 ∧ k = 1) → ¬ (i = 111 ∧ (k = 12 ∨ k = 14)) → zup (zup (zup c 1 1 x) 111 12 0) 111 14 x i k = c i k := fun i k a1 a2 => by
      rw [zup_at, if_neg (by omega), zup_at, if_neg (by omega), zup_at, if_neg (by omega)]
    refine ⟨by rw [zup_k _ _ (by decide), zup_s], fun _ => by simp [va_up], hg7, ?_, g2.congr (fun i k h => H i k (by omega) (by omega)), g2b.congr (fun i k h => H i k (by omega) (by omega)), g3.congr h10 (fun i k h => H i k (by omega) (by omega)), g4.congr h10 (fun i k h => H i k (by omega) (by omega)), g5.congr (fun i k h => H i k (by omega) (by omega)), g8.congr (fun i k h => H i k (by omega) (by omega)) ⟨rfl, rfl⟩, g9.congr (fun i k h => H i k (by omega) (by omega)) rfl, ?_, ?_, g12.congr (fun i k h => H i k (by omega) (by omega)), (g13.congr (fun i k h => H i k (by omega) (by omega))).mono⟩
    · unfold zI1
      rw [H 111 13 (by omega) (by omega), H 1 0 (by omega) (by omega), zup_s, show zup (zup (zup c 1 1 x) 111 12 0) 111 14 x 1 1 = x by rw [zup_i _ _ _ (by decide), zup_i _ _ _ (by decide), zup_s]]
      exact ⟨g1.1, g1.2.1, h10, rfl, h3⟩
    · rw [H 111 21 (by omega) (by omega)]
      exact g10.congr (fun v hv => funext fun k => H _ k (by omega) (by omega)) (fun _ _ => rfl) (fun q _ _ => H 112 q (by omega) (by omega))
    · exact g11.congr h10 (H 1 0 (by omega) (by omega)) (funext fun k => H 114 k (by omega) (by omega)) (funext fun k => H 4 k (by omega) (by omega)) (fun i hi => funext fun k => H i k (by omega) (by omega)) (fun q _ => H 112 q (by omega) (by omega))
  · have hW : w_L_setOutput c w x = (1, c, w) := by unfold w_L_setOutput m_X6_setOutput xb; rw [h1]; show (nI (lcd _ _), _) = _; rw [lcd_h]; rfl
    have hR : m_X7_setOutput c x = (0, zup c 111 12 1) := by unfold m_X7_setOutput; rw [h2, ck_zero]; exact if_neg (show ¬ (1 : Int32) ≤ 0 by decide)
    rw [hW] at hg7 ⊢; dsimp only at hg7 ⊢; rw [hR] at hg7 ⊢; dsimp only at hg7 ⊢
    exact q_bad hI hg7 (by decide)
theorem pP_setGain : zP_setGain zInv := by
  intro j c w en ea x y hI hj hF hgw hF7 hg7
  have hI' := hI
  obtain ⟨g0, g1, g2, g2b, g3, g4, g5, g8, g9, g10, g11, g12, g13⟩ := hI'
  have h10 := g1.2.2.1
  rcases rn_is g1 x with ⟨h1, h2, h3⟩ | ⟨h1, h2⟩
  · have K := g2 (zn x) h3
    by_cases hk : c 114 (zn x) = 1
    · have hk6 : c 2 (zn x) = 103 := by
        rcases K.1 with ⟨k1, k2⟩ | ⟨k1, k2⟩ | ⟨k1, k2⟩ | ⟨k1, k2⟩ | ⟨k1, k2⟩
        · rw [k2] at hk; exact absurd hk (by decide)
        · exact k1
        · rw [k2] at hk; exact absurd hk (by decide)
        · rw [k2] at hk; exact absurd hk (by decide)
        · rw [k2] at hk; exact absurd hk (by decide)
      rcases ro_in y (-200) 200 with ⟨p1, p2, _⟩ | ⟨p1, p2⟩
      · have hW : w_L_setGain c w x y = (0, zup c 3 (zn x) y, va_up w 124 (c 3 (zn x)).toInt64) := by unfold w_L_setGain m_X6_setGain xb; rw [h1]; dsimp only; rw [if_pos hk6, p1]
        have h2' : m_X7_isNode (zup c 3 (zn x) y) x = 1 := by unfold m_X7_isNode at h2 ⊢; rw [zup_i _ _ _ (by decide)]; exact h2
        have hR : m_X7_setGain (zup c 3 (zn x) y) x y = (c 3 (zn x), zup (zup (zup c 3 (zn x) y) 111 12 0) 115 (zn x) y) := by
          unfold m_X7_setGain
          rw [h2', if_neg (show ¬ (1 : Int32) = 0 by decide), zup_i _ _ _ (show 114 ≠ 3 by decide), if_pos hk, p2, if_neg (show ¬ (1 : Int32) = 0 by decide), zup_i _ _ _ (show 115 ≠ 3 by decide), K.2.2.1 hk]
        rw [hW] at hg7 ⊢; dsimp only at hg7 ⊢; rw [hR] at hg7 ⊢; dsimp only at hg7 ⊢
        have H : ∀ i k, ¬ ((i = 3 ∨ i = 115) ∧ k = zn x) → ¬ (i = 111 ∧ k = 12) → zup (zup (zup c 3 (zn x) y) 111 12 0) 115 (zn x) y i k = c i k := fun i k a1 a2 => by
          rw [zup_at, if_neg (by omega), zup_at, if_neg (by omega), zup_at, if_neg (by omega)]
        refine ⟨by rw [zup_i _ _ _ (by decide), zup_s], fun _ => by simp [va_up], hg7, g1.congr (fun i k h => H i k (by omega) (by omega)), ?_, g2b.congr (fun i k h => H i k (by omega) (by omega)), g3.congr h10 (fun i k h => H i k (by omega) (by omega)), g4.congr h10 (fun i k h => H i k (by omega) (by omega)), g5.congr (fun i k h => H i k (by omega) (by omega)), g8.congr (fun i k h => H i k (by omega) (by omega)) ⟨rfl, rfl⟩, g9.congr (fun i k h => H i k (by omega) (by omega)) rfl, ?_, ?_, g12.congr (fun i k h => H i k (by omega) (by omega)), (g13.congr (fun i k h => H i k (by omega) (by omega))).mono⟩
        · intro k hk9
          rw [H 1 0 (by omega) (by omega)] at hk9
          by_cases e : k = zn x
          · subst e
            rw [H 2 _ (by omega) (by omega), H 114 _ (by omega) (by omega)]
            refine ⟨K.1, K.2.1, fun _ => ?_, fun q => ?_, fun q => ?_, fun q => ?_⟩
            · rw [zup_s, zup_i _ _ _ (by decide), zup_i _ _ _ (by decide), zup_s]
            · rw [hk] at q; exact absurd q (by decide)
            · rw [hk] at q; exact absurd q (by decide)
            · rw [hk] at q; exact absurd q (by decide)
          · rw [H 2 _ (by omega) (by omega), H 114 _ (by omega) (by omega), H 115 k (by omega) (by omega), H 3 k (by omega) (by omega), H 116 k (by omega) (by omega), H 117 k (by omega) (by omega), H 4 k (by omega) (by omega), H 5 k (by omega) (by omega), H 6 k (by omega) (by omega), H 7 k (by omega) (by omega), H 8 k (by omega) (by omega), H 9 k (by omega) (by omega)]
            exact g2 k hk9
        · rw [H 111 21 (by omega) (by omega)]
          exact g10.congr (fun v hv => funext fun k => H _ k (by omega) (by omega)) (fun _ _ => rfl) (fun q _ _ => H 112 q (by omega) (by omega))
        · exact g11.congr h10 (H 1 0 (by omega) (by omega)) (funext fun k => H 114 k (by omega) (by omega)) (funext fun k => H 4 k (by omega) (by omega)) (fun i hi => funext fun k => H i k (by omega) (by omega)) (fun q _ => H 112 q (by omega) (by omega))
      · have hW : w_L_setGain c w x y = (3, c, w) := by unfold w_L_setGain m_X6_setGain xb; rw [h1]; dsimp only; rw [if_pos hk6, p1]; show (nI (lcd _ _), _) = _; rw [lcd_s (by decide +kernel), lcd_s (by decide +kernel), lcd_h]; rfl
        have hR : m_X7_setGain c x y = (0, zup c 111 12 3) := by
          unfold m_X7_setGain
          rw [h2, if_neg (show ¬ (1 : Int32) = 0 by decide), if_pos hk, p2, if_pos rfl]
        rw [hW] at hg7 ⊢; dsimp only at hg7 ⊢; rw [hR] at hg7 ⊢; dsimp only at hg7 ⊢
        exact q_bad hI hg7 (by decide)
    · have hk6 : ¬ c 2 (zn x) = 103 := fun q => by
        rcases K.1 with ⟨k1, k2⟩ | ⟨k1, k2⟩ | ⟨k1, k2⟩ | ⟨k1, k2⟩ | ⟨k1, k2⟩
        · rw [k1] at q; exact absurd q (by decide)
        · exact hk k2
        · rw [k1] at q; exact absurd q (by decide)
        · rw [k1] at q; exact absurd q (by decide)
        · rw [k1] at q; exact absurd q (by decide)
      have hW : w_L_setGain c w x y = (2, c, w) := by unfold w_L_setGain m_X6_setGain xb; rw [h1]; dsimp only; rw [if_neg hk6]; show (nI (lcd _ _), _) = _; rw [lcd_s (by decide +kernel), lcd_h]; rfl
      have hR : m_X7_setGain c x y = (0, zup c 111 12 2) := by
        unfold m_X7_setGain
        rw [h2, if_neg (show ¬ (1 : Int32) = 0 by decide), if_neg hk]
      rw [hW] at hg7 ⊢; dsimp only at hg7 ⊢; rw [hR] at hg7 ⊢; dsimp only at hg7 ⊢
      exact q_bad hI hg7 (by decide)
  · have hW : w_L_setGain c w x y = (1, c, w) := by unfold w_L_setGain m_X6_setGain xb; rw [h1]; show (nI (lcd _ _), _) = _; rw [lcd_h]; rfl
    have hR : m_X7_setGain c x y = (0, zup c 111 12 1) := by unfold m_X7_setGain; rw [h2]; exact if_pos rfl
    rw [hW] at hg7 ⊢; dsimp only at hg7 ⊢; rw [hR] at hg7 ⊢; dsimp only at hg7 ⊢
    exact q_bad hI hg7 (by decide)
