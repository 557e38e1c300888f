theorem pP_play : zP_play zInv := by
  intro j c w en ea x hI hj
  have hI' := hI
  obtain ⟨g0, g1, g2, g2b, g3, g4, g5, g8, g9, g10, g11, g12, g13⟩ := hI'
  rcases ro_in x 1 64 with ⟨h1, h2, h3, h4⟩ | ⟨h1, h2⟩
  · have hx := zn_rng (a := 1) (b' := 64) rfl rfl (by decide) (by decide) h3 h4
    have hM : m_X6_play c w ea x = .inr ((m_X6_perform c w ea (zn x) 64).1, (m_X6_perform c w ea (zn x) 64).2.1, (m_X6_perform c w ea (zn x) 64).2.2) := by unfold m_X6_play xb; rw [h1]
    have hW : w_L_play c w ea x = (0, (m_X6_perform c w ea (zn x) 64).2.1, va_up (m_X6_perform c w ea (zn x) 64).2.2 124 ((m_X6_perform c w ea (zn x) 64).1).toInt64) := by unfold w_L_play; rw [hM]
    have hP := perf_2 c w ea (zn x) 64
    have key := fun (S0 : Nat → Nat → Int32) (w0 : Nat → Int64) => perf_ok (S0 := S0) (w0 := w0) hI hj hx.1 hx.2 (show 64 ≤ 64 by decide)
    rw [hW]
    generalize m_X6_perform c w ea (zn x) 64 = P at key hP ⊢
    intro hFw hgw hF7 hg7 h7
    obtain ⟨v, C, w1⟩ := P
    dsimp only at hFw hgw hF7 hg7 h7 hP ⊢
    have hC : C = (aN (m_X4_find c ea 34 (zn x) 64 108) w (zn x)).1 := congrArg Prod.fst hP
    have hw1 : w1 = (aN (m_X4_find c ea 34 (zn x) 64 108) w (zn x)).2 := congrArg Prod.snd hP
    have hf : ∀ i, 110 ≤ i → C i = c i := fun i hi => hFw i (by omega)
    have k9 := key (zup C 111 12 0) (va_up w1 124 v.toInt64) (fun i hi => by rw [zup_i _ _ _ (by omega), hC]) (fun i hi hi2 => by rw [zup_i _ _ _ hi2]; exact hf i hi) (fun k hk => by rw [zup_k _ _ hk, hf 111 (by decide)]) (by rw [va_up_ne _ _ (by decide), hw1]; exact (aN_o _ w _).2 111 (by decide))
    obtain ⟨p1, p2⟩ := k9
    have pv : v = (m_X7_samples (sN (zup C 111 12 0) (va_up w1 124 v.toInt64) (zn x - 1)).1).1 := congrArg Prod.fst p1
    have hR : m_X7_play C (va_up w1 124 v.toInt64) x = ((m_X7_samples (sN (zup C 111 12 0) (va_up w1 124 v.toInt64) (zn x - 1)).1).1, (sN (zup C 111 12 0) (va_up w1 124 v.toInt64) (zn x)).1, (sN (zup C 111 12 0) (va_up w1 124 v.toInt64) (zn x)).2) := by
      unfold m_X7_play
      rw [h2, ck_one]
      rw [if_pos (show (0 : Int32) ≤ 0 by decide)]
      have e := play_eq C (va_up w1 124 v.toInt64) x (zup C 111 12 0) (va_up w1 124 v.toInt64) (fun _ y c1 w1 => (y, c1, w1)) (zn x - 1) 0 0
      rw [Nat.zero_add, show zn x - 1 + 1 = zn x by omega] at e
      exact e
    rw [hR] at hg7 h7 ⊢
    dsimp only at hg7 h7 ⊢
    have eS : zSg c (zup C 111 12 0) := ⟨by rw [zup_k _ _ (by decide), hf 111 (by decide)], by rw [zup_k _ _ (by decide), hf 111 (by decide)], fun i h5 h6 => by rw [zup_i _ _ _ (by omega)]; exact hf i (by omega)⟩
    have eD : zDp c (zup C 111 12 0 112) := by rw [zup_i _ _ _ (by decide), hf 112 (by decide)]; exact inv_dp g2 g11
    obtain ⟨q1, q2, q3, q4, q5⟩ := seq_ok (w0 := va_up w1 124 v.toInt64) g1 g2 g3 g4 eS eD (zn x)
    refine ⟨by rw [q4 12 (by decide) (by decide) (by decide), zup_s], fun _ => ?_, p2 _ _ (fun _ _ => rfl) (fun _ _ => rfl) ?_ rfl hg7 h7.1 ?_⟩
    · rw [← pv, q5 124 (by decide), va_up_self]
    · rw [q5 106 (by decide), va_up_ne _ _ (by decide), hw1]
    · rw [← hf 111 (by decide)]; exact h7.2
  · have hM : m_X6_play c w ea x = .inl "java/lang/IllegalArgumentException" := by unfold m_X6_play xb; rw [h1]
    have hW : w_L_play c w ea x = (1, c, w) := by unfold w_L_play; rw [hM]; show (nI (lcd _ _), _) = _; rw [lcd_h]; rfl
    have hR : m_X7_play c w x = (0, zup c 111 12 1, w) := by unfold m_X7_play; rw [h2, ck_zero]; exact if_neg (show ¬ (1 : Int32) ≤ 0 by decide)
    rw [hW]
    intro hFw hgw hF7 hg7 h7
    dsimp only at hg7 ⊢
    rw [hR] at hg7 ⊢
    exact q_bad hI hg7 (by decide)
