theorem pP_setEnvelope : zP_setEnvelope zInv := by
  intro j c w en ea x y z u hI hj hF7 hg7
  have hI' := hI
  obtain ⟨g0, g1, g2, g2b, g3, g4, g5, g8, g9, g10, g11, g12, g13⟩ := hI'
  have h10 := g1.2.2.1
  have bad : m_X6_setEnvelope ea x y z u = .inl "java/lang/IllegalArgumentException" → m_X7_setEnvelope c x y z u = (0, zup c 111 12 1) → ((m_X7_setEnvelope c x y z u).2 111 12 = (w_L_setEnvelope w ea x y z u).1 ∧ ((w_L_setEnvelope w ea x y z u).1 = 0 → (w_L_setEnvelope w ea x y z u).2 124 = ((m_X7_setEnvelope c x y z u).1).toInt64) ∧ ((∃ X9, m_X6_setEnvelope ea x y z u = .inl X9) → zInv (j + 1) (m_X7_setEnvelope c x y z u).2 (w_L_setEnvelope w ea x y z u).2 ea) ∧ (¬ (∃ X9, m_X6_setEnvelope ea x y z u = .inl X9) → zInv (j + 1) (m_X7_setEnvelope c x y z u).2 (w_L_setEnvelope w ea x y z u).2 (va_up ea 0 (zq4 x y z u)))) := by
    intro hM hR
    have hW : w_L_setEnvelope w ea x y z u = (1, w) := by unfold w_L_setEnvelope; rw [hM]; show (nI (lcd _ _), _) = _; rw [lcd_h]; rfl
    rw [hR] at hg7 ⊢; rw [hW]; dsimp only at hg7 ⊢
    exact ⟨zup_s _ _ _ _, fun q => absurd q (by decide), fun _ => hI.congr (zth 1) hg7 ⟨rfl, rfl⟩ ⟨rfl, fun _ _ => rfl⟩, fun q => absurd ⟨_, hM⟩ q⟩
  have t1 : ¬ (1 : Int32) ≤ 0 := by decide
  have t0 : (0 : Int32) ≤ 0 := by decide
  have tn : ¬ (1 : Int32) = 0 := by decide
  rcases ro_in x 0 200 with ⟨a1, a2, a3, a4⟩ | ⟨a1, a2⟩
  · rcases ro_in y 0 200 with ⟨b1, b2, b3, b4⟩ | ⟨b1, b2⟩
    · rcases ro_in z 0 1000 with ⟨c1, c2, c3, c4⟩ | ⟨c1, c2⟩
      · rcases ro_in u 0 200 with ⟨d1, d2, d3, d4⟩ | ⟨d1, d2⟩
        · have hM : m_X6_setEnvelope ea x y z u = .inr (ea 0 2) := by unfold m_X6_setEnvelope xb; rw [a1]; dsimp only; rw [b1]; dsimp only; rw [c1]; dsimp only; rw [d1]
          have hW : w_L_setEnvelope w ea x y z u = (0, va_up w 124 (ea 0 2).toInt64) := by unfold w_L_setEnvelope; rw [hM]
          have hR : m_X7_setEnvelope c x y z u = (c 111 18, zup (zup (zup (zup (zup c 111 12 0) 111 16 x) 111 17 y) 111 18 z) 111 19 u) := by
            unfold m_X7_setEnvelope
            rw [a2, if_neg tn, b2, if_neg tn, c2, if_neg tn, d2, if_neg tn, ck_one]
            rw [if_pos t0]
            dsimp only
            rw [zup_k _ _ (by decide)]
          rw [hR] at hg7 ⊢; rw [hW]; dsimp only at hg7 ⊢
          have H : ∀ i k, ¬ (i = 111 ∧ (k = 12 ∨ (16 ≤ k ∧ k ≤ 19))) → zup (zup (zup (zup (zup c 111 12 0) 111 16 x) 111 17 y) 111 18 z) 111 19 u i k = c i k := fun i k h => by
            rw [zup_at, if_neg (by omega), zup_at, if_neg (by omega), zup_at, if_neg (by omega), zup_at, if_neg (by omega), zup_at, if_neg (by omega)]
          refine ⟨by rw [zup_k _ _ (by decide), zup_k _ _ (by decide), zup_k _ _ (by decide), zup_k _ _ (by decide), zup_s], fun _ => by rw [← g9.2.2.2.2.1]; simp [va_up], fun q => (by obtain ⟨X9, q⟩ := q; rw [hM] at q; cases q), fun _ => ?_⟩
          refine ⟨hg7, g1.congr (fun i k h => H i k (by omega)), g2.congr (fun i k h => H i k (by omega)), g2b.congr (fun i k h => H i k (by omega)), g3.congr h10 (fun i k h => H i k (by omega)), g4.congr h10 (fun i k h => H i k (by omega)), g5.congr (fun i k h => H i k (by omega)), g8.congr (fun i k h => H i k (by omega)) ⟨rfl, rfl⟩, ?_, ?_, ?_, g12.congr (fun i k h => H i k (by omega)), (g13.congr (fun i k h => H i k (by omega))).mono⟩
          · obtain ⟨e1, e2, e3, e4, e5, e6, e7, e8, e9, e10, e11⟩ := g9
            have rx := zn_rng (a := 0) (b' := 200) rfl rfl (by decide) (by decide) a3 a4
            have ry := zn_rng (a := 0) (b' := 200) rfl rfl (by decide) (by decide) b3 b4
            have ru := zn_rng (a := 0) (b' := 200) rfl rfl (by decide) (by decide) d3 d4
            unfold zE9
            rw [H 111 15 (by omega), H 111 20 (by omega), H 111 21 (by omega), H 0 6 (by omega), H 35 1 (by omega), H 35 2 (by omega), show va_up ea 0 (zq4 x y z u) 0 = zq4 x y z u by simp [va_up],
              show zup (zup (zup (zup (zup c 111 12 0) 111 16 x) 111 17 y) 111 18 z) 111 19 u 111 16 = x by rw [zup_k _ _ (by decide), zup_k _ _ (by decide), zup_k _ _ (by decide), zup_s],
              show zup (zup (zup (zup (zup c 111 12 0) 111 16 x) 111 17 y) 111 18 z) 111 19 u 111 17 = y by rw [zup_k _ _ (by decide), zup_k _ _ (by decide), zup_s],
              show zup (zup (zup (zup (zup c 111 12 0) 111 16 x) 111 17 y) 111 18 z) 111 19 u 111 18 = z by rw [zup_k _ _ (by decide), zup_s],
              show zup (zup (zup (zup (zup c 111 12 0) 111 16 x) 111 17 y) 111 18 z) 111 19 u 111 19 = u by rw [zup_s]]
            exact ⟨e1, e2, rfl, rfl, rfl, rfl, rx.2, ry.2, ru.2, e10, e11⟩
          · rw [H 111 21 (by omega)]
            exact g10.congr (fun v hv => funext fun k => H _ k (by omega)) (fun v hv => by simp [va_up]) (fun q _ _ => H 112 q (by omega))
          · exact g11.congr h10 (H 1 0 (by omega)) (funext fun k => H 114 k (by omega)) (funext fun k => H 4 k (by omega)) (fun i hi => funext fun k => H i k (by omega)) (fun q _ => H 112 q (by omega))
        · exact bad (by unfold m_X6_setEnvelope xb; rw [a1]; dsimp only; rw [b1]; dsimp only; rw [c1]; dsimp only; rw [d1]) (by unfold m_X7_setEnvelope; rw [a2, if_neg tn, b2, if_neg tn, c2, if_neg tn, d2, if_pos rfl, ck_zero]; exact if_neg t1)
      · exact bad (by unfold m_X6_setEnvelope xb; rw [a1]; dsimp only; rw [b1]; dsimp only; rw [c1]) (by unfold m_X7_setEnvelope; rw [a2, if_neg tn, b2, if_neg tn, c2, if_pos rfl, ck_zero]; exact if_neg t1)
    · exact bad (by unfold m_X6_setEnvelope xb; rw [a1]; dsimp only; rw [b1]) (by unfold m_X7_setEnvelope; rw [a2, if_neg tn, b2, if_pos rfl, ck_zero]; exact if_neg t1)
  · exact bad (by unfold m_X6_setEnvelope xb; rw [a1]) (by unfold m_X7_setEnvelope; rw [a2, if_pos rfl, ck_zero]; exact if_neg t1)
