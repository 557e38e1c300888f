theorem arr_o (c : Nat → Nat → Int32) {i : Nat} (hi : i ≠ 33) : m_X0_arrange c i = c i := by
  have g : ∀ (m p : Nat) (x : Int32) (c1 : Nat → Nat → Int32), g1_X0_arrange c m p x c1 (fun _ _ c1 => c1) i = c1 i := by
    intro m
    induction m with
    | zero => intro p x c1; rfl
    | succ m ih => intro p x c1; rw [g1_X0_arrange, ih, zup_i _ _ _ hi]
  exact g _ _ _ _
theorem xadd_o (c : Nat → Nat → Int32) (K : Int32) {i k : Nat} (h1 : ¬ (i = 1 ∧ k = 0)) (h2 : ¬ (i = 2 ∧ k = zn (c 1 0))) (h3 : i ≠ 33) : (m_X0_add c K).2 i k = c i k := by
  unfold m_X0_add; dsimp only
  rw [arr_o _ h3, zup_at, if_neg h1, zup_at, if_neg h2]
theorem xadd_1 (c : Nat → Nat → Int32) (K : Int32) : (m_X0_add c K).2 1 0 = c 1 0 + 1 := by
  unfold m_X0_add; dsimp only
  rw [arr_o _ (by decide), zup_s]
theorem xadd_2 (c : Nat → Nat → Int32) (K : Int32) : (m_X0_add c K).2 2 (zn (c 1 0)) = K := by
  unfold m_X0_add; dsimp only
  rw [arr_o _ (by decide), zup_i _ _ _ (by decide), zup_s]
theorem xadd_33 (c : Nat → Nat → Int32) (K : Int32) : (m_X0_add c K).2 33 = m_X0_arrange (zup (zup c 2 (zn (c 1 0)) K) 1 0 (c 1 0 + 1)) 33 := rfl
theorem pP_addGain : zP_addGain zInv := by
  intro j c w en ea x hI hj hFw hgw hF7 hg7
  have hI' := hI
  obtain ⟨g0, g1, g2, g2b, g3, g4, g5, g8, g9, g10, g11, g12, g13⟩ := hI'
  have tn : ¬ (1 : Int32) = 0 := by decide
  have bad : m_X6_addGain c x = .inl "java/lang/IllegalArgumentException" → m_X7_addGain c x = (0, zup c 111 12 1) → ((m_X7_addGain (w_L_addGain c w x).2.1 x).2 111 12 = (w_L_addGain c w x).1 ∧ ((w_L_addGain c w x).1 = 0 → (w_L_addGain c w x).2.2 124 = ((m_X7_addGain (w_L_addGain c w x).2.1 x).1).toInt64) ∧ zInv (j + 1) (m_X7_addGain (w_L_addGain c w x).2.1 x).2 (w_L_addGain c w x).2.2 ea) := by
    intro hM hR
    have hW : w_L_addGain c w x = (1, c, w) := by unfold w_L_addGain; rw [hM]; show (nI (lcd _ _), _) = _; rw [lcd_h]; rfl
    rw [hW] at hg7 ⊢; dsimp only at hg7 ⊢; rw [hR] at hg7 ⊢
    exact q_bad hI hg7 (by decide)
  rcases ro_in x (-200) 200 with ⟨a0, b0, l0, u0⟩ | ⟨a0, b0⟩
  · rcases fb_is g1 with ⟨f1, f2, f3⟩ | ⟨f1, f2⟩
    · have hM : m_X6_addGain c x = .inr (c 1 0, zup ((m_X0_add c 103).2) 3 (zn (c 1 0)) x) := by unfold m_X6_addGain xb; rw [a0]; dsimp only; rw [f1]
      have hW : w_L_addGain c w x = (0, zup ((m_X0_add c 103).2) 3 (zn (c 1 0)) x, va_up w 124 (c 1 0).toInt64) := by unfold w_L_addGain; rw [hM]
      have r13 : (zup ((m_X0_add c 103).2) 3 (zn (c 1 0)) x) 111 13 = c 111 13 := by rw [zup_i _ _ _ (by decide)]; exact xadd_o c 103 (by decide) (by omega) (by decide)
      have hR : m_X7_addGain (zup ((m_X0_add c 103).2) 3 (zn (c 1 0)) x) x = ((m_X7_adds (zup (zup ((m_X0_add c 103).2) 3 (zn (c 1 0)) x) 111 12 0) 1 x 0 0).1, (m_X7_adds (zup (zup ((m_X0_add c 103).2) 3 (zn (c 1 0)) x) 111 12 0) 1 x 0 0).2) := by
        unfold m_X7_addGain; rw [b0, if_neg tn, f3 _ r13]; exact if_pos rfl
      rw [hW] at hg7 ⊢; dsimp only at hg7 ⊢; rw [hR] at hg7 ⊢; dsimp only at hg7 ⊢
      have v3 : (zup ((m_X0_add c 103).2) 3 (zn (c 1 0)) x) 3 (zn (c 1 0)) = x := by rw [zup_s]
      have h := add_gen (K := 103) (w' := va_up w 124 (c 1 0).toInt64) hI rfl f2 (fun i k h1 h2 h3 => by rw [zup_at, if_neg (by omega)]; exact xadd_o c 103 h1 (by omega) h3) (by rw [zup_i _ _ _ (by decide)]; exact xadd_1 c 103) (by rw [zup_i _ _ _ (by decide)]; exact xadd_33 c 103) (by rw [zup_i _ _ _ (by decide)]; exact xadd_2 c 103) (Or.inr (Or.inl ⟨rfl, rfl⟩)) (by decide) (fun _ => v3.symm) (fun q => absurd q (by decide)) (fun q => absurd q (by decide)) (fun q => absurd q (by decide)) ⟨by simp [va_up], by simp [va_up]⟩ hg7
      exact ⟨h.1, fun _ => by rw [h.2.1]; simp [va_up], h.2.2⟩
    · have hM : m_X6_addGain c x = .inl "java/lang/IllegalStateException" := by unfold m_X6_addGain xb; rw [a0]; dsimp only; rw [f1]
      have hW : w_L_addGain c w x = (2, c, w) := by unfold w_L_addGain; rw [hM]; show (nI (lcd _ _), _) = _; rw [lcd_s (by decide), lcd_h]; rfl
      have hR : m_X7_addGain c x = (0, zup c 111 12 2) := by unfold m_X7_addGain; rw [b0, if_neg tn, f2]; exact if_neg tn
      rw [hW] at hg7 ⊢; dsimp only at hg7 ⊢; rw [hR] at hg7 ⊢
      exact q_bad hI hg7 (by decide)
  · exact bad (by unfold m_X6_addGain xb; rw [a0]) (by unfold m_X7_addGain; rw [b0, if_pos rfl, full_1])
theorem pP_addDelay : zP_addDelay zInv := by
  intro j c w en ea x y hI hj hFw hgw hF7 hg7
  have hI' := hI
  obtain ⟨g0, g1, g2, g2b, g3, g4, g5, g8, g9, g10, g11, g12, g13⟩ := hI'
  have tn : ¬ (1 : Int32) = 0 := by decide
  have bad : m_X6_addDelay c x y = .inl "java/lang/IllegalArgumentException" → m_X7_addDelay c x y = (0, zup c 111 12 1) → ((m_X7_addDelay (w_L_addDelay c w x y).2.1 x y).2 111 12 = (w_L_addDelay c w x y).1 ∧ ((w_L_addDelay c w x y).1 = 0 → (w_L_addDelay c w x y).2.2 124 = ((m_X7_addDelay (w_L_addDelay c w x y).2.1 x y).1).toInt64) ∧ zInv (j + 1) (m_X7_addDelay (w_L_addDelay c w x y).2.1 x y).2 (w_L_addDelay c w x y).2.2 ea) := by
    intro hM hR
    have hW : w_L_addDelay c w x y = (1, c, w) := by unfold w_L_addDelay; rw [hM]; show (nI (lcd _ _), _) = _; rw [lcd_h]; rfl
    rw [hW] at hg7 ⊢; dsimp only at hg7 ⊢; rw [hR] at hg7 ⊢
    exact q_bad hI hg7 (by decide)
  rcases ro_in x (1) 60 with ⟨a0, b0, l0, u0⟩ | ⟨a0, b0⟩
  · rcases ro_in y (-95) 95 with ⟨a1, b1, l1, u1⟩ | ⟨a1, b1⟩
    · rcases fb_is g1 with ⟨f1, f2, f3⟩ | ⟨f1, f2⟩
      · have hM : m_X6_addDelay c x y = .inr (c 1 0, zup (zup ((m_X0_add c 100).2) 4 (zn (c 1 0)) x) 5 (zn (c 1 0)) y) := by unfold m_X6_addDelay xb; rw [a0]; dsimp only; rw [a1]; dsimp only; rw [f1]
        have hW : w_L_addDelay c w x y = (0, zup (zup ((m_X0_add c 100).2) 4 (zn (c 1 0)) x) 5 (zn (c 1 0)) y, va_up w 124 (c 1 0).toInt64) := by unfold w_L_addDelay; rw [hM]
        have r13 : (zup (zup ((m_X0_add c 100).2) 4 (zn (c 1 0)) x) 5 (zn (c 1 0)) y) 111 13 = c 111 13 := by rw [zup_i _ _ _ (by decide), zup_i _ _ _ (by decide)]; exact xadd_o c 100 (by decide) (by omega) (by decide)
        have hR : m_X7_addDelay (zup (zup ((m_X0_add c 100).2) 4 (zn (c 1 0)) x) 5 (zn (c 1 0)) y) x y = ((m_X7_adds (zup (zup (zup ((m_X0_add c 100).2) 4 (zn (c 1 0)) x) 5 (zn (c 1 0)) y) 111 12 0) 2 x y 0).1, (m_X7_adds (zup (zup (zup ((m_X0_add c 100).2) 4 (zn (c 1 0)) x) 5 (zn (c 1 0)) y) 111 12 0) 2 x y 0).2) := by
          unfold m_X7_addDelay; rw [b0, if_neg tn, b1, if_neg tn, f3 _ r13]; exact if_pos rfl
        rw [hW] at hg7 ⊢; dsimp only at hg7 ⊢; rw [hR] at hg7 ⊢; dsimp only at hg7 ⊢
        have v4 : (zup (zup ((m_X0_add c 100).2) 4 (zn (c 1 0)) x) 5 (zn (c 1 0)) y) 4 (zn (c 1 0)) = x := by rw [zup_i _ _ _ (by decide), zup_s]
        have v5 : (zup (zup ((m_X0_add c 100).2) 4 (zn (c 1 0)) x) 5 (zn (c 1 0)) y) 5 (zn (c 1 0)) = y := by rw [zup_s]
        have h := add_gen (K := 100) (w' := va_up w 124 (c 1 0).toInt64) hI rfl f2 (fun i k h1 h2 h3 => by rw [zup_at, if_neg (by omega), zup_at, if_neg (by omega)]; exact xadd_o c 100 h1 (by omega) h3) (by rw [zup_i _ _ _ (by decide), zup_i _ _ _ (by decide)]; exact xadd_1 c 100) (by rw [zup_i _ _ _ (by decide), zup_i _ _ _ (by decide)]; exact xadd_33 c 100) (by rw [zup_i _ _ _ (by decide), zup_i _ _ _ (by decide)]; exact xadd_2 c 100) (Or.inr (Or.inr (Or.inl ⟨rfl, rfl⟩))) (by decide) (fun q => absurd q (by decide)) (fun _ => ⟨v4.symm, v5.symm, (zn_rng (a := 1) (b' := 60) rfl rfl (by decide) (by decide) l0 u0)⟩) (fun q => absurd q (by decide)) (fun q => absurd q (by decide)) ⟨by simp [va_up], by simp [va_up]⟩ hg7
        exact ⟨h.1, fun _ => by rw [h.2.1]; simp [va_up], h.2.2⟩
      · have hM : m_X6_addDelay c x y = .inl "java/lang/IllegalStateException" := by unfold m_X6_addDelay xb; rw [a0]; dsimp only; rw [a1]; dsimp only; rw [f1]
        have hW : w_L_addDelay c w x y = (2, c, w) := by unfold w_L_addDelay; rw [hM]; show (nI (lcd _ _), _) = _; rw [lcd_s (by decide), lcd_h]; rfl
        have hR : m_X7_addDelay c x y = (0, zup c 111 12 2) := by unfold m_X7_addDelay; rw [b0, if_neg tn, b1, if_neg tn, f2]; exact if_neg tn
        rw [hW] at hg7 ⊢; dsimp only at hg7 ⊢; rw [hR] at hg7 ⊢
        exact q_bad hI hg7 (by decide)
    · exact bad (by unfold m_X6_addDelay xb; rw [a0]; dsimp only; rw [a1]) (by unfold m_X7_addDelay; rw [b0, if_neg tn, b1, if_pos rfl, full_1])
  · exact bad (by unfold m_X6_addDelay xb; rw [a0]) (by unfold m_X7_addDelay; rw [b0, if_pos rfl, full_1])
theorem pP_addFilter : zP_addFilter zInv := by
  intro j c w en ea x y z hI hj hFw hgw hF7 hg7
  have hI' := hI
  obtain ⟨g0, g1, g2, g2b, g3, g4, g5, g8, g9, g10, g11, g12, g13⟩ := hI'
  have tn : ¬ (1 : Int32) = 0 := by decide
  have bad : m_X6_addFilter c x y z = .inl "java/lang/IllegalArgumentException" → m_X7_addFilter c x y z = (0, zup c 111 12 1) → ((m_X7_addFilter (w_L_addFilter c w x y z).2.1 x y z).2 111 12 = (w_L_addFilter c w x y z).1 ∧ ((w_L_addFilter c w x y z).1 = 0 → (w_L_addFilter c w x y z).2.2 124 = ((m_X7_addFilter (w_L_addFilter c w x y z).2.1 x y z).1).toInt64) ∧ zInv (j + 1) (m_X7_addFilter (w_L_addFilter c w x y z).2.1 x y z).2 (w_L_addFilter c w x y z).2.2 ea) := by
    intro hM hR
    have hW : w_L_addFilter c w x y z = (1, c, w) := by unfold w_L_addFilter; rw [hM]; show (nI (lcd _ _), _) = _; rw [lcd_h]; rfl
    rw [hW] at hg7 ⊢; dsimp only at hg7 ⊢; rw [hR] at hg7 ⊢
    exact q_bad hI hg7 (by decide)
  rcases ro_in x (-64) 64 with ⟨a0, b0, l0, u0⟩ | ⟨a0, b0⟩
  · rcases ro_in y (-64) 64 with ⟨a1, b1, l1, u1⟩ | ⟨a1, b1⟩
    · rcases ro_in z (-64) 64 with ⟨a2, b2, l2, u2⟩ | ⟨a2, b2⟩
      · rcases fb_is g1 with ⟨f1, f2, f3⟩ | ⟨f1, f2⟩
        · have hM : m_X6_addFilter c x y z = .inr (c 1 0, zup (zup (zup ((m_X0_add c 102).2) 6 (zn (c 1 0)) x) 7 (zn (c 1 0)) y) 8 (zn (c 1 0)) z) := by unfold m_X6_addFilter xb; rw [a0]; dsimp only; rw [a1]; dsimp only; rw [a2]; dsimp only; rw [f1]
          have hW : w_L_addFilter c w x y z = (0, zup (zup (zup ((m_X0_add c 102).2) 6 (zn (c 1 0)) x) 7 (zn (c 1 0)) y) 8 (zn (c 1 0)) z, va_up w 124 (c 1 0).toInt64) := by unfold w_L_addFilter; rw [hM]
          have r13 : (zup (zup (zup ((m_X0_add c 102).2) 6 (zn (c 1 0)) x) 7 (zn (c 1 0)) y) 8 (zn (c 1 0)) z) 111 13 = c 111 13 := by rw [zup_i _ _ _ (by decide), zup_i _ _ _ (by decide), zup_i _ _ _ (by decide)]; exact xadd_o c 102 (by decide) (by omega) (by decide)
          have hR : m_X7_addFilter (zup (zup (zup ((m_X0_add c 102).2) 6 (zn (c 1 0)) x) 7 (zn (c 1 0)) y) 8 (zn (c 1 0)) z) x y z = ((m_X7_adds (zup (zup (zup (zup ((m_X0_add c 102).2) 6 (zn (c 1 0)) x) 7 (zn (c 1 0)) y) 8 (zn (c 1 0)) z) 111 12 0) 3 x y z).1, (m_X7_adds (zup (zup (zup (zup ((m_X0_add c 102).2) 6 (zn (c 1 0)) x) 7 (zn (c 1 0)) y) 8 (zn (c 1 0)) z) 111 12 0) 3 x y z).2) := by
            unfold m_X7_addFilter; rw [b0, if_neg tn, b1, if_neg tn, b2, if_neg tn, f3 _ r13]; exact if_pos rfl
          rw [hW] at hg7 ⊢; dsimp only at hg7 ⊢; rw [hR] at hg7 ⊢; dsimp only at hg7 ⊢
          have v6 : (zup (zup (zup ((m_X0_add c 102).2) 6 (zn (c 1 0)) x) 7 (zn (c 1 0)) y) 8 (zn (c 1 0)) z) 6 (zn (c 1 0)) = x := by rw [zup_i _ _ _ (by decide), zup_i _ _ _ (by decide), zup_s]
          have v7 : (zup (zup (zup ((m_X0_add c 102).2) 6 (zn (c 1 0)) x) 7 (zn (c 1 0)) y) 8 (zn (c 1 0)) z) 7 (zn (c 1 0)) = y := by rw [zup_i _ _ _ (by decide), zup_s]
          have v8 : (zup (zup (zup ((m_X0_add c 102).2) 6 (zn (c 1 0)) x) 7 (zn (c 1 0)) y) 8 (zn (c 1 0)) z) 8 (zn (c 1 0)) = z := by rw [zup_s]
          have h := add_gen (K := 102) (w' := va_up w 124 (c 1 0).toInt64) hI rfl f2 (fun i k h1 h2 h3 => by rw [zup_at, if_neg (by omega), zup_at, if_neg (by omega), zup_at, if_neg (by omega)]; exact xadd_o c 102 h1 (by omega) h3) (by rw [zup_i _ _ _ (by decide), zup_i _ _ _ (by decide), zup_i _ _ _ (by decide)]; exact xadd_1 c 102) (by rw [zup_i _ _ _ (by decide), zup_i _ _ _ (by decide), zup_i _ _ _ (by decide)]; exact xadd_33 c 102) (by rw [zup_i _ _ _ (by decide), zup_i _ _ _ (by decide), zup_i _ _ _ (by decide)]; exact xadd_2 c 102) (Or.inr (Or.inr (Or.inr (Or.inl ⟨rfl, rfl⟩)))) (by decide) (fun q => absurd q (by decide)) (fun q => absurd q (by decide)) (fun _ => ⟨v6.symm, v7.symm, v8.symm⟩) (fun q => absurd q (by decide)) ⟨by simp [va_up], by simp [va_up]⟩ hg7
          exact ⟨h.1, fun _ => by rw [h.2.1]; simp [va_up], h.2.2⟩
        · have hM : m_X6_addFilter c x y z = .inl "java/lang/IllegalStateException" := by unfold m_X6_addFilter xb; rw [a0]; dsimp only; rw [a1]; dsimp only; rw [a2]; dsimp only; rw [f1]
          have hW : w_L_addFilter c w x y z = (2, c, w) := by unfold w_L_addFilter; rw [hM]; show (nI (lcd _ _), _) = _; rw [lcd_s (by decide), lcd_h]; rfl
          have hR : m_X7_addFilter c x y z = (0, zup c 111 12 2) := by unfold m_X7_addFilter; rw [b0, if_neg tn, b1, if_neg tn, b2, if_neg tn, f2]; exact if_neg tn
          rw [hW] at hg7 ⊢; dsimp only at hg7 ⊢; rw [hR] at hg7 ⊢
          exact q_bad hI hg7 (by decide)
      · exact bad (by unfold m_X6_addFilter xb; rw [a0]; dsimp only; rw [a1]; dsimp only; rw [a2]) (by unfold m_X7_addFilter; rw [b0, if_neg tn, b1, if_neg tn, b2, if_pos rfl, full_1])
    · exact bad (by unfold m_X6_addFilter xb; rw [a0]; dsimp only; rw [a1]) (by unfold m_X7_addFilter; rw [b0, if_neg tn, b1, if_pos rfl, full_1])
  · exact bad (by unfold m_X6_addFilter xb; rw [a0]) (by unfold m_X7_addFilter; rw [b0, if_pos rfl, full_1])
theorem pP_addBus : zP_addBus zInv := by
  intro j c w en ea x hI hj hFw hgw hF7 hg7
  have hI' := hI
  obtain ⟨g0, g1, g2, g2b, g3, g4, g5, g8, g9, g10, g11, g12, g13⟩ := hI'
  have tn : ¬ (1 : Int32) = 0 := by decide
  have bad : m_X6_addBus c x = .inl "java/lang/IllegalArgumentException" → m_X7_addBus c x = (0, zup c 111 12 1) → ((m_X7_addBus (w_L_addBus c w x).2.1 x).2 111 12 = (w_L_addBus c w x).1 ∧ ((w_L_addBus c w x).1 = 0 → (w_L_addBus c w x).2.2 124 = ((m_X7_addBus (w_L_addBus c w x).2.1 x).1).toInt64) ∧ zInv (j + 1) (m_X7_addBus (w_L_addBus c w x).2.1 x).2 (w_L_addBus c w x).2.2 ea) := by
    intro hM hR
    have hW : w_L_addBus c w x = (1, c, w) := by unfold w_L_addBus; rw [hM]; show (nI (lcd _ _), _) = _; rw [lcd_h]; rfl
    rw [hW] at hg7 ⊢; dsimp only at hg7 ⊢; rw [hR] at hg7 ⊢
    exact q_bad hI hg7 (by decide)
  rcases ro_in x (0) 32767 with ⟨a0, b0, l0, u0⟩ | ⟨a0, b0⟩
  · rcases fb_is g1 with ⟨f1, f2, f3⟩ | ⟨f1, f2⟩
    · have hM : m_X6_addBus c x = .inr (c 1 0, zup ((m_X0_add c 98).2) 9 (zn (c 1 0)) x) := by unfold m_X6_addBus xb; rw [a0]; dsimp only; rw [f1]
      have hW : w_L_addBus c w x = (0, zup ((m_X0_add c 98).2) 9 (zn (c 1 0)) x, va_up w 124 (c 1 0).toInt64) := by unfold w_L_addBus; rw [hM]
      have r13 : (zup ((m_X0_add c 98).2) 9 (zn (c 1 0)) x) 111 13 = c 111 13 := by rw [zup_i _ _ _ (by decide)]; exact xadd_o c 98 (by decide) (by omega) (by decide)
      have hR : m_X7_addBus (zup ((m_X0_add c 98).2) 9 (zn (c 1 0)) x) x = ((m_X7_adds (zup (zup ((m_X0_add c 98).2) 9 (zn (c 1 0)) x) 111 12 0) 4 x 0 0).1, (m_X7_adds (zup (zup ((m_X0_add c 98).2) 9 (zn (c 1 0)) x) 111 12 0) 4 x 0 0).2) := by
        unfold m_X7_addBus; rw [b0, if_neg tn, f3 _ r13]; exact if_pos rfl
      rw [hW] at hg7 ⊢; dsimp only at hg7 ⊢; rw [hR] at hg7 ⊢; dsimp only at hg7 ⊢
      have v9 : (zup ((m_X0_add c 98).2) 9 (zn (c 1 0)) x) 9 (zn (c 1 0)) = x := by rw [zup_s]
      have h := add_gen (K := 98) (w' := va_up w 124 (c 1 0).toInt64) hI rfl f2 (fun i k h1 h2 h3 => by rw [zup_at, if_neg (by omega)]; exact xadd_o c 98 h1 (by omega) h3) (by rw [zup_i _ _ _ (by decide)]; exact xadd_1 c 98) (by rw [zup_i _ _ _ (by decide)]; exact xadd_33 c 98) (by rw [zup_i _ _ _ (by decide)]; exact xadd_2 c 98) (Or.inr (Or.inr (Or.inr (Or.inr ⟨rfl, rfl⟩)))) (by decide) (fun q => absurd q (by decide)) (fun q => absurd q (by decide)) (fun q => absurd q (by decide)) (fun _ => v9.symm) ⟨by simp [va_up], by simp [va_up]⟩ hg7
      exact ⟨h.1, fun _ => by rw [h.2.1]; simp [va_up], h.2.2⟩
    · have hM : m_X6_addBus c x = .inl "java/lang/IllegalStateException" := by unfold m_X6_addBus xb; rw [a0]; dsimp only; rw [f1]
      have hW : w_L_addBus c w x = (2, c, w) := by unfold w_L_addBus; rw [hM]; show (nI (lcd _ _), _) = _; rw [lcd_s (by decide), lcd_h]; rfl
      have hR : m_X7_addBus c x = (0, zup c 111 12 2) := by unfold m_X7_addBus; rw [b0, if_neg tn, f2]; exact if_neg tn
      rw [hW] at hg7 ⊢; dsimp only at hg7 ⊢; rw [hR] at hg7 ⊢
      exact q_bad hI hg7 (by decide)
  · exact bad (by unfold m_X6_addBus xb; rw [a0]) (by unfold m_X7_addBus; rw [b0, if_pos rfl, full_1])
