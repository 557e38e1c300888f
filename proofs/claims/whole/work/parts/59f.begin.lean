theorem begin_ok {j u : Nat} {c c2 : Nat → Nat → Int32} {w w' : Nat → Int64} {en : Nat → Nat} {ea : Nat → Nat → Int32} {x y d : Int32} (hI : zInv j c w ea) (hj : j < 512) (hu : u < 4) (hx : zn x < 60) (hc2 : ∀ i k, ¬ (i = 35 ∧ (k = 1 ∨ k = 2)) → c2 i k = c i k) (h1 : c2 35 1 = c 35 1 + 1) (h2 : c2 35 2 = c 35 2 + d) (hw : w' 106 = w 106 ∧ w' 111 = w 111) (hg : zG (bgF (bz u 16 0 (zup (zup (m_X5_start c2 en ea 34 u (zn x) y (c 0 6) (c 35 1 + 1) (en 0) (ea 0)).1 111 12 0) 111 20 (zup (m_X5_start c2 en ea 34 u (zn x) y (c 0 6) (c 35 1 + 1) (en 0) (ea 0)).1 111 12 0 111 20 + d))) u x y)) : bgF (bz u 16 0 (zup (zup (m_X5_start c2 en ea 34 u (zn x) y (c 0 6) (c 35 1 + 1) (en 0) (ea 0)).1 111 12 0) 111 20 (zup (m_X5_start c2 en ea 34 u (zn x) y (c 0 6) (c 35 1 + 1) (en 0) (ea 0)).1 111 12 0 111 20 + d))) u x y 111 12 = 0 ∧ zInv (j + 1) (bgF (bz u 16 0 (zup (zup (m_X5_start c2 en ea 34 u (zn x) y (c 0 6) (c 35 1 + 1) (en 0) (ea 0)).1 111 12 0) 111 20 (zup (m_X5_start c2 en ea 34 u (zn x) y (c 0 6) (c 35 1 + 1) (en 0) (ea 0)).1 111 12 0 111 20 + d))) u x y) w' (m_X5_start c2 en ea 34 u (zn x) y (c 0 6) (c 35 1 + 1) (en 0) (ea 0)).2.2 := by
  have hI' := hI
  obtain ⟨g0, g1, g2, g2b, g3, g4, g5, g8, g9, g10, g11, g12, g13⟩ := hI'
  have hb := g13.2.1
  obtain ⟨q1, q2, q3, q4, q5, q6, q7, q8, q9, q10, q11⟩ := g9
  have eS : ∀ i k, i ≠ 34 + 3 + 2 * u → (m_X5_start c2 en ea 34 u (zn x) y (c 0 6) (c 35 1 + 1) (en 0) (ea 0)).1 i k = c2 i k := fun i k h => start_o h
  have eV := begin_vp (c2 := c2) (ea := ea) (en := en) (v := u) (q := en 0) (f := ea 0) (y := y) (wv := c 0 6) (z := c 35 1 + 1) (x := x) (R := bz u 16 0 (zup (zup (m_X5_start c2 en ea 34 u (zn x) y (c 0 6) (c 35 1 + 1) (en 0) (ea 0)).1 111 12 0) 111 20 (zup (m_X5_start c2 en ea 34 u (zn x) y (c 0 6) (c 35 1 + 1) (en 0) (ea 0)).1 111 12 0 111 20 + d))) (m := zn (c 111 21)) hx
  have ee : (m_X5_start c2 en ea 34 u (zn x) y (c 0 6) (c 35 1 + 1) (en 0) (ea 0)).2.2 = va_up ea (34 + 3 + 2 * u) (ea 0) := rfl
  rw [ee]
  generalize hS : (m_X5_start c2 en ea 34 u (zn x) y (c 0 6) (c 35 1 + 1) (en 0) (ea 0)).1 = S at hg eS eV ⊢
  have B : ∀ i k, (i = 112 → ∀ q, q < 16 → k ≠ 640 + 16 * u + q) → ¬ (i = 111 ∧ (k = 12 ∨ k = 20)) → bz u 16 0 (zup (zup S 111 12 0) 111 20 (zup S 111 12 0 111 20 + d)) i k = S i k := fun i k a1 a2 => by
    rw [bz_o u a1 _ _ _ (by omega), zup_at, if_neg (by omega), zup_at, if_neg (by omega)]
  have B20 : bz u 16 0 (zup (zup S 111 12 0) 111 20 (zup S 111 12 0 111 20 + d)) 111 20 = c 111 20 + d := by
    rw [bz_o u (by omega) _ _ _ (by omega), zup_s, zup_k _ _ (by decide), eS 111 20 (by omega), hc2 111 20 (by omega)]
  have B12 : bz u 16 0 (zup (zup S 111 12 0) 111 20 (zup S 111 12 0 111 20 + d)) 111 12 = 0 := by
    rw [bz_o u (by omega) _ _ _ (by omega), zup_k _ _ (by decide), zup_s]
  have BV : ∀ q, q < 16 → bz u 16 0 (zup (zup S 111 12 0) 111 20 (zup S 111 12 0 111 20 + d)) 112 (640 + 16 * u + q) = 0 := fun q hq => bz_v u 16 0 _ (by omega) (fun q hq => absurd hq (Nat.not_lt_zero _)) q hq
  have BS : ∀ i k, (i = 112 → ∀ q, q < 16 → k ≠ 640 + 16 * u + q) → ¬ (i = 111 ∧ (k = 12 ∨ k = 20)) → i ≠ 34 + 3 + 2 * u → ¬ (i = 35 ∧ (k = 1 ∨ k = 2)) → bz u 16 0 (zup (zup S 111 12 0) 111 20 (zup S 111 12 0 111 20 + d)) i k = c i k := fun i k a1 a2 a3 a4 => by rw [B i k a1 a2, eS i k a3, hc2 i k a4]
  generalize hR : bz u 16 0 (zup (zup S 111 12 0) 111 20 (zup S 111 12 0 111 20 + d)) = R at hg eV B B20 B12 BV BS ⊢
  have R15 : R 111 15 = c 0 6 := by rw [BS 111 15 (by omega) (by omega) (by omega) (by omega), q1]
  have R16 : R 111 16 = c 111 16 := BS 111 16 (by omega) (by omega) (by omega) (by omega)
  have R17 : R 111 17 = c 111 17 := BS 111 17 (by omega) (by omega) (by omega) (by omega)
  have R18 : R 111 18 = c 111 18 := BS 111 18 (by omega) (by omega) (by omega) (by omega)
  have R19 : R 111 19 = c 111 19 := BS 111 19 (by omega) (by omega) (by omega) (by omega)
  have R21 : R 111 21 = c 111 21 := BS 111 21 (by omega) (by omega) (by omega) (by omega)
  have V := eV (by rw [R21, q11]) (by rw [R21]) R15 q2 (by rw [R16, q3]) (by rw [R17, q4]) (by rw [R18, q5]) (by rw [R19, q6]) (by rw [R16]; exact q7) (by rw [R17]; exact q8) (by rw [R19]; exact q9) BV
  have F : ∀ i k, ¬ (i = 111 ∧ k = 21) → (i = 112 → ∀ q, q < 16 → k ≠ 640 + 16 * u + q) → bgF R u x y i k = R i k := fun i k a1 a2 => bgF_o R u x y a1 a2
  have F21 : bgF R u x y 111 21 = c 111 21 + 1 := by unfold bgF; rw [zup_s, R21]
  have F21n : zn (bgF R u x y 111 21) = zn (c 111 21) + 1 := by rw [F21, zn_add (N := zn (c 111 21) + 1) (Nat.lt_succ_self _) (by omega)]
  refine ⟨by rw [F 111 12 (by omega) (by omega)]; exact B12, ?_⟩
  refine hI.voice hg (fun i k a1 a2 a3 a4 => ?_) hw (by simp [va_up]) ?_ ?_ ?_ (by rw [F21n]; omega) ?_
  · rw [F i k (by omega) (fun e q hq => by have := a4 e; omega), BS i k (fun e q hq => by have := a4 e; omega) (by omega) (by omega) a1]
  · rw [F 111 20 (by omega) (by omega), B20, F 35 2 (by omega) (by omega), B 35 2 (by omega) (by omega), eS 35 2 (by omega), h2, q10]
  · rw [F21, F 35 1 (by omega) (by omega), B 35 1 (by omega) (by omega), eS 35 1 (by omega), h1, q11]
  · rw [F21n]
    intro v hv
    by_cases e : v = u
    · subst e
      have e1 : bgF R v x y (34 + 3 + 2 * v) = S (34 + 3 + 2 * v) := funext fun k => by rw [F _ k (by omega) (by omega), B _ k (by omega) (by omega)]
      have e2 : va_up ea (34 + 3 + 2 * v) (ea 0) (34 + 3 + 2 * v) = ea 0 := by simp [va_up]
      rw [e1, e2, ← hS]
      rw [hS]
      exact V
    · have e1 : bgF R u x y (34 + 3 + 2 * v) = c (34 + 3 + 2 * v) := funext fun k => by rw [F _ k (by omega) (by omega), BS _ k (by omega) (by omega) (by omega) (by omega)]
      have e2 : va_up ea (34 + 3 + 2 * u) (ea 0) (34 + 3 + 2 * v) = ea (34 + 3 + 2 * v) := by
        have : ¬ (34 + 3 + 2 * v = 34 + 3 + 2 * u) := by omega
        show (if 34 + 3 + 2 * v = 34 + 3 + 2 * u then ea 0 else ea (34 + 3 + 2 * v)) = _
        exact if_neg this
      rw [e1, e2]
      exact ((g10 v hv).congr (fun q hq => by rw [F 112 _ (by omega) (fun _ q2 hq2 => by omega), BS 112 _ (fun _ q2 hq2 => by omega) (by omega) (by omega) (by omega)])).mono (by omega)
  · intro v hv
    by_cases e : v = u
    · subst e
      have P := fun q (hq : q < 16) => bgF_v R v x y hq
      have p1 : bgF R v x y 112 (640 + 16 * v + 1) = 0 := (P 1 (by decide)).trans (BV 1 (by decide))
      have p5 : bgF R v x y 112 (640 + 16 * v + 5) = R 111 16 := P 5 (by decide)
      have p10 : bgF R v x y 112 (640 + 16 * v + 10) = 0 := (P 10 (by decide)).trans (BV 10 (by decide))
      rw [p1, p5, p10, R16]
      exact ⟨fun _ h => absurd h (by decide), Nat.zero_le _, q7⟩
    · have e1 : ∀ q, q < 16 → bgF R u x y 112 (640 + 16 * v + q) = c 112 (640 + 16 * v + q) := fun q hq => by rw [F 112 _ (by omega) (fun _ q2 hq2 => by omega), BS 112 _ (fun _ q2 hq2 => by omega) (by omega) (by omega) (by omega)]
      rw [e1 0 (by decide), e1 1 (by decide), e1 8 (by decide), e1 10 (by decide), e1 5 (by decide)]
      have := g13.2.2 v hv
      exact ⟨this.1, by have := this.2.1; omega, this.2.2⟩
theorem pP_begin : zP_begin zInv := by
  intro j c w en ea x y hI hj hF hgw hF7 hg7
  have hI' := hI
  obtain ⟨g0, g1, g2, g2b, g3, g4, g5, g8, g9, g10, g11, g12, g13⟩ := hI'
  have hb := g13.2.1
  have tn : ¬ (1 : Int32) = 0 := by decide
  rcases nk_in x with ⟨h1, h2, h3⟩ | ⟨h1, h2⟩
  · rcases ro_in y 1 100 with ⟨k1, k2, _⟩ | ⟨k1, k2⟩
    · -- the reference from any state whose rows are c's
      have vf : ∀ (C' : Nat → Nat → Int32), (∀ k, C' 112 k = c 112 k) → ∃ u, u < 4 ∧ m_X7_voiceFor (zup C' 111 12 0) = nI u ∧ ((m_X1_lowestFree c 34 = nI u ∧ c (34 + 3 + 2 * u) 0 = 0) ∨ (m_X1_lowestFree c 34 = -1 ∧ m_X1_mostStealable c ea 34 = nI u ∧ ¬ c (34 + 3 + 2 * u) 0 = 0)) := fun C' hC' =>
        voice_eq (ea := ea) (C := c) (R := zup C' 111 12 0) (m := zn (c 111 21)) (by rw [zup_i _ _ _ (by decide), show C' 112 = c 112 from funext hC']; exact g10) (by omega)
      have rf : ∀ (C' : Nat → Nat → Int32) (u : Nat) (d : Int32), (∀ k, C' 112 k = c 112 k) → u < 4 → m_X7_voiceFor (zup C' 111 12 0) = nI u → ((c (34 + 3 + 2 * u) 0 = 0 ∧ d = 0) ∨ (¬ c (34 + 3 + 2 * u) 0 = 0 ∧ d = 1)) → m_X7_begin C' x y = (nI u, bgF (bz u 16 0 (zup (zup C' 111 12 0) 111 20 (zup C' 111 12 0 111 20 + d))) u x y) := by
        intro C' u d hC' hu hv hd
        have hz : zn (nI u) = u := zn_nI (by omega)
        have hp : m_X7_plays (zup C' 111 12 0) u = c (34 + 3 + 2 * u) 0 := by
          refine zVp.plays (e := ea (34 + 3 + 2 * u)) (m := zn (c 111 21)) ?_
          rw [zup_i _ _ _ (by decide), show C' 112 = c 112 from funext hC']
          exact g10 u hu
        unfold m_X7_begin
        rw [h2, if_neg tn, k2, if_neg tn, ck_one]
        dsimp only
        rw [hv, hz, hp]
        rcases hd with ⟨d1, d2⟩ | ⟨d1, d2⟩
        · rw [if_pos d1, g1_begin_n, ck_one, d2]
          dsimp only
          rw [hv, hz]
          rfl
        · rw [if_neg d1, g2_begin_n, ck_one, d2]
          dsimp only
          rw [hv, hz]
          rfl
      obtain ⟨u, hu, _, hv⟩ := vf c (fun _ => rfl)
      have hz : zn (nI u) = u := zn_nI (by omega)
      have hne : ¬ nI u = -1 := fun q => absurd ((z_lt (b := 0) rfl rfl (by omega) (by decide)).mp (show nI u < 0 by rw [q]; decide)) (Nat.not_lt_zero _)
      have vf' : ∀ (C' : Nat → Nat → Int32), (∀ k, C' 112 k = c 112 k) → m_X7_voiceFor (zup C' 111 12 0) = nI u := by
        intro C' hC'
        obtain ⟨u', hu', e1, e2⟩ := vf C' hC'
        have : nI u' = nI u := by
          rcases hv with ⟨a1, a2⟩ | ⟨a1, a2, a3⟩ <;> rcases e2 with ⟨b1, b2⟩ | ⟨b1, b2, b3⟩
          · rw [← a1, ← b1]
          · rw [a1] at b1; exact absurd b1 hne
          · rw [a1] at b1
            exact absurd b1.symm (fun q => absurd ((z_lt (b := 0) rfl rfl (by omega) (by decide)).mp (show nI u' < 0 by rw [q]; decide)) (Nat.not_lt_zero _))
          · rw [← a2, ← b2]
        rw [e1, this]
      rcases hv with ⟨hv1, hv2⟩ | ⟨hv1, hv2, hv3⟩
      · have hM : m_X6_begin c en ea x y = .inr (nI u, m_X5_start (zup c 35 1 (c 35 1 + 1)) en ea 34 u (zn x) y (c 0 6) (c 35 1 + 1) (en 0) (ea 0)) := by
          unfold m_X6_begin xb
          rw [h1]; dsimp only; rw [k1]; dsimp only
          unfold m_X1_startNote
          rw [hv1, if_neg hne, hz]
        have hW : w_L_begin c w en ea x y = (0, (m_X5_start (zup c 35 1 (c 35 1 + 1)) en ea 34 u (zn x) y (c 0 6) (c 35 1 + 1) (en 0) (ea 0)).1, va_up w 124 (nI u).toInt64, (m_X5_start (zup c 35 1 (c 35 1 + 1)) en ea 34 u (zn x) y (c 0 6) (c 35 1 + 1) (en 0) (ea 0)).2.1, (m_X5_start (zup c 35 1 (c 35 1 + 1)) en ea 34 u (zn x) y (c 0 6) (c 35 1 + 1) (en 0) (ea 0)).2.2) := by unfold w_L_begin; rw [hM]
        have e112 : ∀ k, (m_X5_start (zup c 35 1 (c 35 1 + 1)) en ea 34 u (zn x) y (c 0 6) (c 35 1 + 1) (en 0) (ea 0)).1 112 k = c 112 k := fun k => by rw [start_o (by omega), zup_i _ _ _ (by decide)]
        have hR := rf _ u 0 e112 hu (vf' _ e112) (Or.inl ⟨hv2, rfl⟩)
        rw [hW] at hg7 ⊢; dsimp only at hg7 ⊢; rw [hR] at hg7 ⊢; dsimp only at hg7 ⊢
        have K := begin_ok (c2 := zup c 35 1 (c 35 1 + 1)) (en := en) (y := y) (w' := va_up w 124 (nI u).toInt64) hI hj hu h3 (fun i k h => by rw [zup_at, if_neg (by omega)]) (zup_s _ _ _ _) (by rw [zup_k _ _ (by decide), Int32.add_zero]) ⟨rfl, rfl⟩ hg7
        exact ⟨K.1, fun _ => by simp [va_up], K.2⟩
      · have hM : m_X6_begin c en ea x y = .inr (nI u, m_X5_start (zup (zup c 35 2 (c 35 2 + 1)) 35 1 (c 35 1 + 1)) en ea 34 u (zn x) y (c 0 6) (c 35 1 + 1) (en 0) (ea 0)) := by
          unfold m_X6_begin xb
          rw [h1]; dsimp only; rw [k1]; dsimp only
          unfold m_X1_startNote
          rw [if_pos hv1, hv2, hz]
        have hW : w_L_begin c w en ea x y = (0, (m_X5_start (zup (zup c 35 2 (c 35 2 + 1)) 35 1 (c 35 1 + 1)) en ea 34 u (zn x) y (c 0 6) (c 35 1 + 1) (en 0) (ea 0)).1, va_up w 124 (nI u).toInt64, (m_X5_start (zup (zup c 35 2 (c 35 2 + 1)) 35 1 (c 35 1 + 1)) en ea 34 u (zn x) y (c 0 6) (c 35 1 + 1) (en 0) (ea 0)).2.1, (m_X5_start (zup (zup c 35 2 (c 35 2 + 1)) 35 1 (c 35 1 + 1)) en ea 34 u (zn x) y (c 0 6) (c 35 1 + 1) (en 0) (ea 0)).2.2) := by unfold w_L_begin; rw [hM]
        have e112 : ∀ k, (m_X5_start (zup (zup c 35 2 (c 35 2 + 1)) 35 1 (c 35 1 + 1)) en ea 34 u (zn x) y (c 0 6) (c 35 1 + 1) (en 0) (ea 0)).1 112 k = c 112 k := fun k => by rw [start_o (by omega), zup_i _ _ _ (by decide), zup_i _ _ _ (by decide)]
        have hR := rf _ u 1 e112 hu (vf' _ e112) (Or.inr ⟨hv3, rfl⟩)
        rw [hW] at hg7 ⊢; dsimp only at hg7 ⊢; rw [hR] at hg7 ⊢; dsimp only at hg7 ⊢
        have K := begin_ok (c2 := zup (zup c 35 2 (c 35 2 + 1)) 35 1 (c 35 1 + 1)) (en := en) (y := y) (w' := va_up w 124 (nI u).toInt64) hI hj hu h3 (fun i k h => by rw [zup_at, if_neg (by omega), zup_at, if_neg (by omega)]) (zup_s _ _ _ _) (by rw [zup_k _ _ (by decide), zup_s]) ⟨rfl, rfl⟩ hg7
        exact ⟨K.1, fun _ => by simp [va_up], K.2⟩
    · have hW : w_L_begin c w en ea x y = (1, c, w, en, ea) := by unfold w_L_begin m_X6_begin xb; rw [h1]; dsimp only; rw [k1]; show (nI (lcd _ _), _) = _; rw [lcd_h]; rfl
      have hR : m_X7_begin c x y = (0, zup c 111 12 1) := by unfold m_X7_begin; rw [h2, if_neg tn, k2, if_pos rfl, ck_zero]
      rw [hW] at hg7 ⊢; dsimp only at hg7 ⊢; rw [hR] at hg7 ⊢
      exact q_bad hI hg7 (by decide)
  · have hW : w_L_begin c w en ea x y = (1, c, w, en, ea) := by unfold w_L_begin m_X6_begin xb; rw [h1]; show (nI (lcd _ _), _) = _; rw [lcd_h]; rfl
    have hR : m_X7_begin c x y = (0, zup c 111 12 1) := by unfold m_X7_begin; rw [h2, if_pos rfl, ck_zero]
    rw [hW] at hg7 ⊢; dsimp only at hg7 ⊢; rw [hR] at hg7 ⊢
    exact q_bad hI hg7 (by decide)
