theorem pP_connect : zP_connect zInv := by
  intro j c w en ea x y z hI hj hFw hgw hF7 hg7
  have hI' := hI
  obtain ⟨g0, g1, g2, g2b, g3, g4, g5, g8, g9, g10, g11, g12, g13⟩ := hI'
  have h10 := g1.2.2.1
  have tn : ¬ (1 : Int32) = 0 := by decide
  generalize hQ : ((m_X7_connect (w_L_connect c w x y z).2.1 x y z).2 111 12 = (w_L_connect c w x y z).1 ∧ ((w_L_connect c w x y z).1 = 0 → (w_L_connect c w x y z).2.2 124 = ((m_X7_connect (w_L_connect c w x y z).2.1 x y z).1).toInt64) ∧ zInv (j + 1) (m_X7_connect (w_L_connect c w x y z).2.1 x y z).2 (w_L_connect c w x y z).2.2 ea) = Q
  have bad : ∀ e : Int32, ¬ e = 0 → w_L_connect c w x y z = (e, c, w) → m_X7_connect c x y z = (0, zup c 111 12 e) → Q := by
    intro e he hW hR
    rw [← hQ]
    rw [hW] at hg7 ⊢; dsimp only at hg7 ⊢; rw [hR] at hg7 ⊢
    exact q_bad hI hg7 he
  have w1 : m_X6_connect c x y z = .inl "java/lang/IndexOutOfBoundsException" → w_L_connect c w x y z = (1, c, w) := fun hM => by unfold w_L_connect; rw [hM]; show (nI (lcd _ _), _) = _; rw [lcd_h]; rfl
  have w2 : m_X6_connect c x y z = .inl "java/lang/IllegalArgumentException" → w_L_connect c w x y z = (2, c, w) := fun hM => by unfold w_L_connect; rw [hM]; show (nI (lcd _ _), _) = _; rw [lcd_s (by decide), lcd_h]; rfl
  have w3 : m_X6_connect c x y z = .inl "java/lang/IllegalStateException" → w_L_connect c w x y z = (3, c, w) := fun hM => by unfold w_L_connect; rw [hM]; show (nI (lcd _ _), _) = _; rw [lcd_s (by decide), lcd_s (by decide), lcd_h]; rfl
  have w4 : m_X6_connect c x y z = .inl "java/lang/UnsupportedOperationException" → w_L_connect c w x y z = (4, c, w) := fun hM => by unfold w_L_connect; rw [hM]; show (nI (lcd _ _), _) = _; rw [lcd_s (by decide), lcd_s (by decide), lcd_s (by decide), lcd_h]; rfl
  rcases rn_is g1 x with ⟨a1, a2, a3⟩ | ⟨a1, a2⟩
  · rcases rn_is g1 y with ⟨b1, b2, b3⟩ | ⟨b1, b2⟩
    · rcases ro_in z (-100) 100 with ⟨d1, d2, _, _⟩ | ⟨d1, d2⟩
      · by_cases z0 : z = 0
        · exact bad 2 (by decide) (w2 (by unfold m_X6_connect xb; rw [a1]; dsimp only; rw [b1]; dsimp only; rw [d1]; exact if_pos z0)) (by unfold m_X7_connect; rw [a2, if_neg tn, b2, if_neg tn, if_pos z0])
        · obtain ⟨t1, t4, t3⟩ := g3 (zn y) b3
          have hfw := fw_eq t1 (fun i hi => (t3 i hi).1) x
          have hM0 : m_X6_connect c x y z = (if (m_X0_findWire c x (zn y)) = (-1) then (if (c 10 (zn y)) < 4 then (if (c 2 (zn y)) = 118 then (.inl "java/lang/UnsupportedOperationException") else (if (m_X0_closesBareCircle c (zn x) (zn y)) = 0 then (.inr ((m_X0_addWire c x (zn y) z).1, (m_X0_addWire c x (zn y) z).2)) else (.inl "java/lang/UnsupportedOperationException"))) else (.inl "java/lang/IllegalStateException")) else (.inl "java/lang/IllegalStateException")) := by
            unfold m_X6_connect xb; rw [a1]; dsimp only; rw [b1]; dsimp only; rw [d1]; dsimp only; rw [if_neg z0]
          rcases wire_at (c := c) (t := zn y) (by rw [t1]; exact t4) x with ⟨q1, q2⟩ | ⟨i, q1, q2, _, _⟩
          · have hwn : ¬ (0 : Int32) ≤ m_X7_wire c x (zn y) := by rw [q1]; decide
            by_cases q3 : zn (c 10 (zn y)) < 4
            · have q4 : c 10 (zn y) < 4 := (z_lt (zn_eq _) (show (4 : Int32) = nI 4 by rfl) (by omega) (by omega)).mpr q3
              have q5 : ¬ c 120 (zn y) = 4 := fun h => by rw [← t1, h] at q3; exact absurd q3 (by decide)
              have k2 : c 2 (zn y) = 118 ↔ y = 0 := by
                have e1 := (g2 (zn y) b3).2.1
                have e0 : y = 0 ↔ zn y = 0 := ⟨fun h => by rw [h]; rfl, fun h => zn_inj (by rw [h]; rfl)⟩
                rw [e0, ← e1]
                rcases (g2 (zn y) b3).1 with ⟨a, b⟩ | ⟨a, b⟩ | ⟨a, b⟩ | ⟨a, b⟩ | ⟨a, b⟩ <;> rw [a, b] <;> decide
              by_cases y0 : y = 0
              · exact bad 4 (by decide) (w4 (by rw [hM0, if_pos (hfw.trans q1), if_pos q4, if_pos (k2.mpr y0)])) (by unfold m_X7_connect; rw [a2, if_neg tn, b2, if_neg tn, if_neg z0, d2, if_neg tn, if_neg hwn, if_neg q5, if_pos y0])
              · have y2 : ¬ c 2 (zn y) = 118 := fun h => y0 (k2.mp h)
                have circ : ∀ A : Nat → Nat → Int32, zG A → (∀ i, i ≠ 10 → ¬ (12 ≤ i ∧ i ≤ 33) → A i = c i) → ((m_X7_leads A (zn y) (zn x)).1 = 0 ↔ m_X0_closesBareCircle c (zn x) (zn y) = 0) := fun A hgA hA => by
                  refine circ_iff hgA h10 rfl (by rw [hA 111 (by decide) (by decide), g1.1]) (fun k hk => ?_) (fun k hk => by rw [hA 114 (by decide) (by decide)]; exact (g2b k hk).1) (fun k hk => by rw [hA 120 (by decide) (by decide)]; exact (g3 k hk).1) (fun k hk i hi => by rw [hA 118 (by decide) (by decide)]; exact ⟨((g3 k hk).2.2 i hi).1, ((g3 k hk).2.2 i hi).2.2⟩) b3 a3
                  rw [hA 114 (by decide) (by decide)]
                  rcases (g2 k hk).1 with ⟨a, b⟩ | ⟨a, b⟩ | ⟨a, b⟩ | ⟨a, b⟩ | ⟨a, b⟩ <;> rw [a, b] <;> decide
                by_cases cl : m_X0_closesBareCircle c (zn x) (zn y) = 0
                · -- the wire is drawn
                  have hM : m_X6_connect c x y z = .inr ((m_X0_addWire c x (zn y) z).1, (m_X0_addWire c x (zn y) z).2) := by rw [hM0, if_pos (hfw.trans q1), if_pos q4, if_neg y2, if_pos cl]
                  have hW : w_L_connect c w x y z = (0, (m_X0_addWire c x (zn y) z).2, va_up w 124 ((m_X0_addWire c x (zn y) z).1).toInt64) := by unfold w_L_connect; rw [hM]
                  rw [← hQ]
                  rw [hW] at hg7 hgw ⊢; dsimp only at hg7 hgw ⊢
                  unfold m_X0_addWire at hg7 hgw ⊢
                  dsimp only at hg7 hgw ⊢
                  generalize hC0 : zup (zup (zup c (12 + zn y) (zn (c 10 (zn y))) x) (23 + zn y) (zn (c 10 (zn y))) z) 10 (zn y) (c 10 (zn y) + 1) = C0 at hg7 hgw ⊢
                  generalize hAA : m_X0_arrange C0 = A at hg7 hgw ⊢
                  have hC : ∀ i k, i ≠ 10 → ¬ (12 ≤ i ∧ i ≤ 32) → C0 i k = c i k := fun i k h1 h2 => by
                    rw [← hC0, zup_at, if_neg (by omega), zup_at, if_neg (by omega), zup_at, if_neg (by omega)]
                  have hA : ∀ i, i ≠ 10 → ¬ (12 ≤ i ∧ i ≤ 33) → A i = c i := fun i h1 h2 => by
                    rw [← hAA, arr_o _ (by omega)]
                    exact funext fun k => hC i k h1 (by omega)
                  have hL := (circ A hgw hA).mpr cl
                  have n1 : ∀ v, m_X7_isNode A v = m_X7_isNode c v := fun v => by unfold m_X7_isNode; rw [hA 111 (by decide) (by decide)]
                  have n2 : m_X7_wire A x (zn y) = m_X7_wire c x (zn y) := wire_congr (hA 118 (by decide) (by decide)) (hA 120 (by decide) (by decide)) x _
                  have A120 := hA 120 (by decide) (by decide)
                  have hR : m_X7_connect A x y z = (nI (zn (c 10 (zn y)) + 1), m_X7_lays (zup (zup (zup (zup ((m_X7_leads A (zn y) (zn x)).2) 111 12 0) 118 (4 * zn y + zn (c 10 (zn y))) x) 119 (4 * zn y + zn (c 10 (zn y))) z) 120 (zn y) (nI (zn (c 10 (zn y)) + 1)))) := by
                    unfold m_X7_connect
                    rw [n1, n1, n2, A120, a2, if_neg tn, b2, if_neg tn, if_neg z0, d2, if_neg tn, if_neg hwn, if_neg q5, if_neg y0, if_pos hL, t1]
                  rw [hR] at hg7 ⊢; dsimp only at hg7 ⊢
                  generalize hD0 : zup (zup (zup (zup ((m_X7_leads A (zn y) (zn x)).2) 111 12 0) 118 (4 * zn y + zn (c 10 (zn y))) x) 119 (4 * zn y + zn (c 10 (zn y))) z) 120 (zn y) (nI (zn (c 10 (zn y)) + 1)) = D0 at hg7 ⊢
                  have lo : ∀ i k, i ≠ 123 → (m_X7_leads A (zn y) (zn x)).2 i k = A i k := fun i k hi => by rw [leads_o A _ _ hi]
                  have hD : ∀ i k, i ≠ 123 → ¬ (118 ≤ i ∧ i ≤ 120) → ¬ (i = 111 ∧ k = 12) → D0 i k = m_X0_arrange C0 i k := fun i k h1 h2 h3 => by
                    rw [← hD0, zup_at, if_neg (by omega), zup_at, if_neg (by omega), zup_at, if_neg (by omega), zup_at, if_neg h3, lo i k h1, hAA]
                  have d118 : ∀ q, q ≠ 4 * zn y + zn (c 10 (zn y)) → D0 118 q = c 118 q := fun q hq => by
                    rw [← hD0, zup_i _ _ _ (by decide), zup_i _ _ _ (by decide), zup_k _ _ hq, zup_i _ _ _ (by decide), lo 118 q (by decide), hA 118 (by decide) (by decide)]
                  have d119 : ∀ q, q ≠ 4 * zn y + zn (c 10 (zn y)) → D0 119 q = c 119 q := fun q hq => by
                    rw [← hD0, zup_i _ _ _ (by decide), zup_k _ _ hq, zup_i _ _ _ (by decide), zup_i _ _ _ (by decide), lo 119 q (by decide), hA 119 (by decide) (by decide)]
                  have d118x : D0 118 (4 * zn y + zn (c 10 (zn y))) = x := by rw [← hD0, zup_i _ _ _ (by decide), zup_i _ _ _ (by decide), zup_s]
                  have d119x : D0 119 (4 * zn y + zn (c 10 (zn y))) = z := by rw [← hD0, zup_i _ _ _ (by decide), zup_s]
                  have d120 : ∀ q, q ≠ zn y → D0 120 q = c 120 q := fun q hq => by
                    rw [← hD0, zup_k _ _ hq, zup_i _ _ _ (by decide), zup_i _ _ _ (by decide), zup_i _ _ _ (by decide), lo 120 q (by decide), A120]
                  have d120y : D0 120 (zn y) = nI (zn (c 10 (zn y)) + 1) := by rw [← hD0, zup_s]
                  have d114 : D0 114 = A 114 := funext fun k => by rw [hD 114 k (by omega) (by omega) (by omega), hAA]
                  have c10 : ∀ q, q ≠ zn y → C0 10 q = c 10 q := fun q hq => by rw [← hC0, zup_k _ _ hq, zup_i _ _ _ (by omega), zup_i _ _ _ (by omega)]
                  have c10y : C0 10 (zn y) = c 10 (zn y) + 1 := by rw [← hC0, zup_s]
                  have c12 : ∀ i k, 12 ≤ i → i ≤ 32 → ¬ (k = zn (c 10 (zn y)) ∧ (i = 12 + zn y ∨ i = 23 + zn y)) → C0 i k = c i k := fun i k h1 h2 h3 => by
                    rw [← hC0, zup_at, if_neg (by omega), zup_at, if_neg (by omega), zup_at, if_neg (by omega)]
                  have c12x : C0 (12 + zn y) (zn (c 10 (zn y))) = x := by rw [← hC0, zup_i _ _ _ (by omega), zup_i _ _ _ (by omega), zup_s]
                  have c23x : C0 (23 + zn y) (zn (c 10 (zn y))) = z := by rw [← hC0, zup_i _ _ _ (by omega), zup_s]
                  have ns : nI (zn (c 10 (zn y)) + 1) = c 10 (zn y) + 1 := zn_inj (by rw [zn_nI (by omega), zn_add (N := 4) q3 (by decide)])
                  have g5' : zAc A (zn (c 1 0)) := by
                    have h9 : zAc c (zn (c 1 0)) := g5
                    exact h9.congr (hA 114 (by decide) (by decide)) (hA 118 (by decide) (by decide)) (hA 120 (by decide) (by decide))
                  have hAc : zAc D0 (zn (c 1 0)) := con_ok (c := A) (x := zn x) (y := zn y) hgw (by rw [hA 111 (by decide) (by decide), g1.1]) g5' a3 b3 (by rw [A120, t1]; exact q3) d114 (fun q hq => by rw [A120, t1] at hq; rw [d118 q hq, hA 118 (by decide) (by decide)]) (by rw [A120, t1, d118x]) (fun q hq => by rw [d120 q hq, A120]) (by rw [d120y, A120, t1, zn_nI (by omega)]) hL
                  have hfin := wire_fin (w' := va_up w 124 (c 10 (zn y) + 1).toInt64) hI rfl hC hD (fun k hk => ?_) (fun k hk => ?_) hAc (by rw [← hD0, zup_i _ _ _ (by decide), zup_i _ _ _ (by decide), zup_i _ _ _ (by decide), zup_s]) hg7 ⟨by simp [va_up], by simp [va_up]⟩
                  · exact ⟨hfin.1, fun _ => by rw [ns]; simp [va_up], hfin.2⟩
                  · by_cases e : k = zn y
                    · subst e
                      rw [d120y, c10y, ns]
                      have e9 : zn (c 10 (zn y) + 1) = zn (c 10 (zn y)) + 1 := zn_add (N := 4) q3 (by decide)
                      rw [e9]
                      refine ⟨rfl, by omega, fun i hi => ?_⟩
                      by_cases e2 : i = zn (c 10 (zn y))
                      · subst e2; rw [d118x, d119x, c12x, c23x]; exact ⟨rfl, rfl, a3⟩
                      · rw [d118 _ (by omega), d119 _ (by omega), c12 _ _ (by omega) (by omega) (by omega), c12 _ _ (by omega) (by omega) (by omega)]
                        exact t3 i (by omega)
                    · obtain ⟨s1, s4, s3⟩ := g3 k hk
                      rw [d120 k e, c10 k e]
                      refine ⟨s1, s4, fun i hi => ?_⟩
                      rw [d118 _ (by omega), d119 _ (by omega), c12 _ _ (by omega) (by omega) (by omega), c12 _ _ (by omega) (by omega) (by omega)]
                      exact s3 i hi
                  · rw [d120 k (by omega), c10 k (by omega)]
                    exact ⟨(g2b k hk).2.1, (g2b k hk).2.2⟩
                · have hL : ¬ (m_X7_leads c (zn y) (zn x)).1 = 0 := fun h => cl ((circ c g0 (fun _ _ _ => rfl)).mp h)
                  have hW := w4 (by rw [hM0, if_pos (hfw.trans q1), if_pos q4, if_neg y2, if_neg cl])
                  have hR : m_X7_connect c x y z = (0, zup ((m_X7_leads c (zn y) (zn x)).2) 111 12 4) := by unfold m_X7_connect; rw [a2, if_neg tn, b2, if_neg tn, if_neg z0, d2, if_neg tn, if_neg hwn, if_neg q5, if_neg y0, if_neg hL]
                  rw [← hQ]
                  rw [hW] at hg7 ⊢; dsimp only at hg7 ⊢; rw [hR] at hg7 ⊢; dsimp only at hg7 ⊢
                  refine ⟨zup_s _ _ _ _, fun h => absurd h (by decide), hI.congr (fun i k h => ?_) hg7 ⟨rfl, rfl⟩ ⟨rfl, fun _ _ => rfl⟩⟩
                  have h' : (i < 70 ∨ 106 ≤ i) ∧ i ≠ 108 ∧ i ≠ 109 ∧ i ≠ 113 ∧ i ≠ 123 ∧ ¬ (i = 111 ∧ k = 12) ∧ (i = 112 → k < 704) := h
                  rw [zup_at, if_neg h'.2.2.2.2.2.1, leads_o c _ _ h'.2.2.2.2.1]
            · have q4 : ¬ c 10 (zn y) < 4 := fun h => q3 ((z_lt (zn_eq _) (show (4 : Int32) = nI 4 by rfl) (by omega) (by omega)).mp h)
              have q5 : c 120 (zn y) = 4 := zn_inj (by rw [t1]; show _ = 4; omega)
              exact bad 3 (by decide) (w3 (by rw [hM0, if_pos (hfw.trans q1), if_neg q4])) (by unfold m_X7_connect; rw [a2, if_neg tn, b2, if_neg tn, if_neg z0, d2, if_neg tn, if_neg hwn, if_pos q5])
          · have hi4 : i < 4 := by rw [t1] at q1; omega
            have q6 : ¬ m_X7_wire c x (zn y) = -1 := by
              rw [q2]
              exact (by decide : ∀ i, i < 4 → ¬ nI i = -1) i hi4
            have q7 : (0 : Int32) ≤ m_X7_wire c x (zn y) := by
              rw [q2]
              exact (by decide : ∀ i, i < 4 → (0 : Int32) ≤ nI i) i hi4
            exact bad 3 (by decide) (w3 (by rw [hM0, if_neg (fun h => q6 (hfw.symm.trans h))])) (by unfold m_X7_connect; rw [a2, if_neg tn, b2, if_neg tn, if_neg z0, d2, if_neg tn, if_pos q7])
      · refine bad 2 (by decide) (w2 (by unfold m_X6_connect xb; rw [a1]; dsimp only; rw [b1]; dsimp only; rw [d1])) ?_
        unfold m_X7_connect
        rw [a2, if_neg tn, b2, if_neg tn, d2]
        by_cases z0 : z = 0
        · rw [if_pos z0]
        · rw [if_neg z0, if_pos rfl]
    · exact bad 1 (by decide) (w1 (by unfold m_X6_connect xb; rw [a1]; dsimp only; rw [b1])) (by unfold m_X7_connect; rw [a2, if_neg tn, b2, if_pos rfl])
  · exact bad 1 (by decide) (w1 (by unfold m_X6_connect xb; rw [a1])) (by unfold m_X7_connect; rw [a2, if_pos rfl])
