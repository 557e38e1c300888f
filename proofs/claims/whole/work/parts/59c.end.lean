/-- what changes voices and clocks alone -/
theorem zInv.voice {j : Nat} {c F : Nat → Nat → Int32} {w w' : Nat → Int64} {ea ea' : Nat → Nat → Int32} (hI : zInv j c w ea) (hg : zG F) (H : ∀ i k, ¬ (i = 35 ∧ (k = 1 ∨ k = 2)) → ¬ (37 ≤ i ∧ i ≤ 43) → ¬ (i = 111 ∧ (k = 12 ∨ k = 20 ∨ k = 21)) → (i = 112 → ¬ (640 ≤ k ∧ k < 704)) → F i k = c i k) (hw : w' 106 = w 106 ∧ w' 111 = w 111) (he : ea' 0 = ea 0) (h20 : F 111 20 = F 35 2) (h21 : F 111 21 = F 35 1) (hv : zVo 34 F ea' (F 112) (zn (F 111 21))) (hb : zn (F 111 21) ≤ 4 * (j + 1)) (hl : zLv (4000 * (j + 1)) (F 112)) : zInv (j + 1) F w' ea' := by
  obtain ⟨g0, g1, g2, g2b, g3, g4, g5, g8, g9, g10, g11, g12, g13⟩ := hI
  have h10 := g1.2.2.1
  refine ⟨hg, g1.congr (fun i k h => H i k (by omega) (by omega) (by omega) (by omega)), g2.congr (fun i k h => H i k (by omega) (by omega) (by omega) (by omega)), g2b.congr (fun i k h => H i k (by omega) (by omega) (by omega) (by omega)), g3.congr h10 (fun i k h => H i k (by omega) (by omega) (by omega) (by omega)), g4.congr h10 (fun i k h => H i k (by omega) (by omega) (by omega) (by omega)), g5.congr (fun i k h => H i k (by omega) (by omega) (by omega) (by omega)), g8.congr (fun i k h => H i k (by omega) (by omega) (by omega) (by omega)) hw, ?_, hv, ?_, g12.congr (fun i k h => H i k (by omega) (by omega) (by omega) (by omega)), ?_⟩
  · obtain ⟨a1, a2, a3, a4, a5, a6, a7, a8, a9, a10, a11⟩ := g9
    unfold zE9
    rw [H 111 15 (by omega) (by omega) (by omega) (by omega), H 111 16 (by omega) (by omega) (by omega) (by omega), H 111 17 (by omega) (by omega) (by omega) (by omega), H 111 18 (by omega) (by omega) (by omega) (by omega), H 111 19 (by omega) (by omega) (by omega) (by omega), H 0 6 (by omega) (by omega) (by omega) (by omega), he]
    exact ⟨a1, a2, a3, a4, a5, a6, a7, a8, a9, h20, h21⟩
  · exact g11.congr h10 (H 1 0 (by omega) (by omega) (by omega) (by omega)) (funext fun k => H 114 k (by omega) (by omega) (by omega) (by omega)) (funext fun k => H 4 k (by omega) (by omega) (by omega) (by omega)) (fun i hi => funext fun k => H i k (by omega) (by omega) (by omega) (by omega)) (fun q _ => H 112 q (by omega) (by omega) (by omega) (by omega))
  · refine ⟨?_, hb, hl⟩
    rw [H 111 22 (by omega) (by omega) (by omega) (by omega)]; have := g13.1; omega
theorem zle1 {a b : Int32} {m : Nat} (ha : zn a < m) (hb : zn b < m) (hm : m < 2 ^ 30) : (a + 1 ≤ b + 1) ↔ a ≤ b := by
  have ea : a + 1 = nI (zn a + 1) := by rw [← nI_1, ← zn_eq]
  have eb : b + 1 = nI (zn b + 1) := by rw [← nI_1, ← zn_eq]
  rw [ea, eb, z_le rfl rfl (by omega) (by omega), z_le (zn_eq a) (zn_eq b) (by omega) (by omega)]
  omega
/-- the note that ends: the same voice on both sides -/
theorem held_first {ea C R : Nat → Nat → Int32} {m : Nat} (h : zVo 34 C ea (R 112) m) (hm : m < 2 ^ 30) {y : Int32} (hy : ¬ y = -1) (K : Nat → Int32 → Int32 × (Nat → Nat → Int32)) : ∀ (n i : Nat) (x : Int32), i + n = 4 → (x = -1 ∨ ∃ u, u < 4 ∧ x = nI u ∧ ¬ C (34 + 3 + 2 * u) 0 = 0 ∧ C (34 + 3 + 2 * u) 1 = 0) → g1_X7_end R y n i x K = K 4 (g1_X1_firstHeld C ea 34 y n i x (fun _ x => x)) ∧ (g1_X1_firstHeld C ea 34 y n i x (fun _ x => x) = -1 ∨ ∃ u, u < 4 ∧ g1_X1_firstHeld C ea 34 y n i x (fun _ x => x) = nI u ∧ ¬ C (34 + 3 + 2 * u) 0 = 0 ∧ C (34 + 3 + 2 * u) 1 = 0) := by
  intro n
  induction n with
  | zero =>
    intro i x hi hx
    rw [show i = 4 by omega]
    exact ⟨rfl, hx⟩
  | succ n ih =>
    intro i x hi hx
    have V := h i (by omega)
    rw [g1_X7_end, g1_X1_firstHeld]
    have hh : m_X7_isHeld R i = if C (34 + 3 + 2 * i) 0 = 0 then 0 else if C (34 + 3 + 2 * i) 1 = 0 then 1 else 0 := by
      unfold m_X7_isHeld
      rw [V.plays]
      by_cases h0 : C (34 + 3 + 2 * i) 0 = 0
      · rw [if_pos h0, if_pos h0]
      · obtain ⟨a1, a2, _⟩ := V.2.2 (V.on h0).2
        dsimp only at a1 a2
        rw [if_neg h0, if_neg h0]
        unfold m_X7_at
        rw [← a1]
    by_cases h0 : C (34 + 3 + 2 * i) 0 = 0
    · have e1 : m_X5_holds C ea 34 i y = 0 := by unfold m_X5_holds; exact if_pos h0
      rw [hh, if_pos h0, if_pos rfl, e1, if_pos rfl]
      exact ih _ _ (by omega) hx
    · by_cases h1 : C (34 + 3 + 2 * i) 1 = 0
      · obtain ⟨a1, a2, a3, a4, a5, a6, a7, e0, e1, e2, e3, b5, b6, b8, a8, a9, a10, a11, a12, a13, a14⟩ := V.2.2 (V.on h0).2
        dsimp only at a3 a11 a12
        rw [hh, if_neg h0, if_pos h1, if_neg (by decide)]
        have hi9 : (nI i = -1 ∨ ∃ u, u < 4 ∧ nI i = nI u ∧ ¬ C (34 + 3 + 2 * u) 0 = 0 ∧ C (34 + 3 + 2 * u) 1 = 0) := Or.inr ⟨i, by omega, rfl, h0, h1⟩
        by_cases hk : R 112 (640 + 16 * i + 2) = y
        · have eh : ¬ m_X5_holds C ea 34 i y = 0 := by
            unfold m_X5_holds; rw [if_neg h0, if_pos h1, if_neg hy, a3, if_pos hk.symm]; decide
          rw [if_pos (show m_X7_at R i 2 = y from hk), if_neg eh]
          rcases hx with hx | ⟨u, hu, hx, u0, u1⟩
          · rw [if_pos (show x < 0 by rw [hx]; decide), if_pos hx]
            exact ih _ _ (by omega) hi9
          · have hxn : ¬ x < 0 := by
              rw [hx]; exact fun q => absurd ((z_lt (b := 0) rfl rfl (by omega) (by decide)).mp q) (Nat.not_lt_zero _)
            have hx1 : ¬ x = -1 := fun q => hxn (by rw [q]; decide)
            rw [if_neg hxn, if_neg hx1]
            have hzx : zn x = u := by rw [hx, zn_nI (by omega)]
            have W := h u hu
            obtain ⟨_, _, _, _, _, _, _, _, _, _, _, _, _, _, _, _, _, c11, c12, _, _⟩ := W.2.2 (W.on u0).2
            dsimp only at c11 c12
            rw [hzx, c11, a11]
            have hq := zle1 (a := R 112 (640 + 16 * u + 13)) (b := R 112 (640 + 16 * i + 13)) c12 a12 hm
            unfold m_X7_at
            by_cases q : R 112 (640 + 16 * u + 13) ≤ R 112 (640 + 16 * i + 13)
            · rw [if_pos q, if_pos (hq.mpr q)]
              exact ih _ _ (by omega) (Or.inr ⟨u, hu, hx, u0, u1⟩)
            · rw [if_neg q, if_neg (fun z => q (hq.mp z))]
              exact ih _ _ (by omega) hi9
        · have eh : m_X5_holds C ea 34 i y = 0 := by
            unfold m_X5_holds; rw [if_neg h0, if_pos h1, if_neg hy, a3, if_neg (fun z => hk z.symm)]
          rw [if_neg (show ¬ m_X7_at R i 2 = y from hk), eh, if_pos rfl]
          exact ih _ _ (by omega) hx
      · have e1 : m_X5_holds C ea 34 i y = 0 := by unfold m_X5_holds; rw [if_neg h0]; exact if_neg h1
        rw [hh, if_neg h0, if_neg h1, if_pos rfl, e1, if_pos rfl]
        exact ih _ _ (by omega) hx
theorem nk_in (x : Int32) : (m_X6_refuseNoKey x = .inr () ∧ r_X7_in x 0 59 = 1 ∧ zn x < 60) ∨ (m_X6_refuseNoKey x = .inl "java/lang/IllegalArgumentException" ∧ r_X7_in x 0 59 = 0) := by
  unfold m_X6_refuseNoKey xb
  rcases ro_in x 0 59 with ⟨h1, h2, h3, h4⟩ | ⟨h1, h2⟩
  · left
    have := zn_rng (a := 0) (b' := 59) rfl rfl (by decide) (by decide) h3 h4
    rw [h1]; exact ⟨rfl, h2, by omega⟩
  · right; rw [h1]; exact ⟨rfl, h2⟩
theorem pP_end : zP_end zInv := by
  intro j c w en ea x hI hj hF hgw hF7 hg7
  have hI' := hI
  obtain ⟨g0, g1, g2, g2b, g3, g4, g5, g8, g9, g10, g11, g12, g13⟩ := hI'
  have hb := g13.2.1
  have hcl : c 35 1 = c 111 21 := g9.2.2.2.2.2.2.2.2.2.2.symm
  -- the reference's search, at any state whose reference's rows are c's
  rcases nk_in x with ⟨h1, h2, h3⟩ | ⟨h1, h2⟩
  · have hy : ¬ x = -1 := fun q => by rw [q] at h3; exact absurd h3 (by decide)
    have srch : ∀ (R : Nat → Nat → Int32), (∀ k, R 112 k = c 112 k) → ∀ K, g1_X7_end R x 4 0 (-1) K = K 4 (m_X1_firstHeld c ea 34 x) ∧ (m_X1_firstHeld c ea 34 x = -1 ∨ ∃ u, u < 4 ∧ m_X1_firstHeld c ea 34 x = nI u ∧ ¬ c (34 + 3 + 2 * u) 0 = 0 ∧ c (34 + 3 + 2 * u) 1 = 0) := fun R hR K =>
      held_first (m := zn (c 111 21)) (by rw [show R 112 = c 112 from funext hR]; exact g10) (by omega) hy K 4 0 (-1) (by omega) (Or.inl rfl)
    rcases (srch c (fun _ => rfl) (fun _ _ => (0, c))).2 with hf | ⟨u, hu, hf, u0, u1⟩
    · have hW : w_L_end c w ea x = (2, c, w) := by unfold w_L_end m_X6_end xb; rw [h1]; dsimp only; rw [if_pos hf]; show (nI (lcd _ _), _) = _; rw [lcd_s (by decide +kernel), lcd_h]; rfl
      have hR : m_X7_end c x = (0, zup c 111 12 2) := by
        unfold m_X7_end
        rw [(srch c (fun _ => rfl) _).1, hf, h2, if_neg (show ¬ (1 : Int32) = 0 by decide)]
        exact if_neg (by decide)
      rw [hW] at hg7 ⊢; dsimp only at hg7 ⊢; rw [hR] at hg7 ⊢
      exact q_bad hI hg7 (by decide)
    · have hne : ¬ m_X1_firstHeld c ea 34 x = -1 := by
        rw [hf]; exact fun q => absurd ((z_lt (b := 0) rfl rfl (by omega) (by decide)).mp (show nI u < 0 by rw [q]; decide)) (Nat.not_lt_zero _)
      have hzu : zn (m_X1_firstHeld c ea 34 x) = u := by rw [hf, zn_nI (by omega)]
      have hW : w_L_end c w ea x = (0, m_X1_releaseNote c ea 34 u, va_up w 124 (nI u).toInt64) := by unfold w_L_end m_X6_end xb; rw [h1]; dsimp only; rw [if_neg hne, hzu, hf]
      have hC1 : ∀ i k, ¬ (i = 35 ∧ k = 1) → i ≠ 34 + 3 + 2 * u → m_X1_releaseNote c ea 34 u i k = c i k := fun i k a1 a2 => by
        unfold m_X1_releaseNote
        rw [crelease_o _ _ _ _ _ a2, zup_at, if_neg (by omega)]
      have hR : m_X7_end (m_X1_releaseNote c ea 34 u) x = (nI u, m_X7_releases (zup (m_X1_releaseNote c ea 34 u) 111 12 0) u) := by
        unfold m_X7_end
        rw [(srch _ (fun k => hC1 112 k (by omega) (by omega)) _).1, hf, h2, if_neg (show ¬ (1 : Int32) = 0 by decide), if_pos (show (0 : Int32) ≤ nI u from (z_le (a := 0) (b := u) rfl rfl (by decide) (by omega)).mpr (Nat.zero_le _)), zn_nI (by omega)]
      rw [hW] at hg7 ⊢; dsimp only at hg7 ⊢; rw [hR] at hg7 ⊢; dsimp only at hg7 ⊢
      have e112 : zup (m_X1_releaseNote c ea 34 u) 111 12 0 112 = c 112 := funext fun k => by rw [zup_i _ _ _ (by decide), hC1 112 k (by omega) (by omega)]
      have e21 : zup (m_X1_releaseNote c ea 34 u) 111 12 0 111 21 = c 111 21 := by rw [zup_k _ _ (by decide), hC1 111 21 (by omega) (by omega)]
      have J := zJ.step (ea := ea) (C := c) (R := zup (m_X1_releaseNote c ea 34 u) 111 12 0) (T := 4000 * j) ⟨by rw [e112, e21]; exact g10, by rw [e21]; exact hcl, by rw [e112]; exact g13.2.2⟩ hu u0 u1 (by rw [e21]; omega) (by omega)
      have F1 : ∀ i k, ¬ (i = 111 ∧ k = 21) → (i = 112 → ¬ (640 ≤ k ∧ k < 704)) → m_X7_releases (zup (m_X1_releaseNote c ea 34 u) 111 12 0) u i k = zup (m_X1_releaseNote c ea 34 u) 111 12 0 i k := fun i k a1 a2 => releases_o _ u a1 (fun e q hq => by have := a2 e; omega)
      have ec : m_X7_releases (zup (m_X1_releaseNote c ea 34 u) 111 12 0) u 111 21 = c 111 21 + 1 := by rw [releases_calls, e21]
      refine ⟨by rw [F1 111 12 (by omega) (by omega), zup_s], fun _ => by simp [va_up], ?_⟩
      refine hI.voice hg7 (fun i k a1 a2 a3 a4 => ?_) ⟨rfl, rfl⟩ rfl ?_ ?_ ?_ ?_ (J.2.2.mono (by omega))
      · rw [F1 i k (by omega) a4, zup_at, if_neg (by omega), hC1 i k (by omega) (by omega)]
      · rw [F1 111 20 (by omega) (by omega), F1 35 2 (by omega) (by omega), zup_k _ _ (by decide), zup_i _ _ _ (by decide), hC1 111 20 (by omega) (by omega), hC1 35 2 (by omega) (by omega)]
        exact g9.2.2.2.2.2.2.2.2.2.1
      · rw [← J.2.1, F1 35 1 (by omega) (by omega), zup_i _ _ _ (by decide)]
      · refine J.1.congr (c := m_X1_releaseNote c ea 34 u) (fun v hv => funext fun k => ?_) (fun _ _ => rfl) (fun _ _ _ => rfl)
        rw [F1 _ k (by omega) (by omega), zup_i _ _ _ (by omega)]
      · rw [ec, zn_add (N := zn (c 111 21) + 1) (Nat.lt_succ_self _) (by omega)]; omega
  · have hW : w_L_end c w ea x = (1, c, w) := by unfold w_L_end m_X6_end xb; rw [h1]; show (nI (lcd _ _), _) = _; rw [lcd_h]; rfl
    have hR : m_X7_end c x = (0, zup c 111 12 1) := by
      have g : ∀ (K : Nat → Int32 → Int32 × (Nat → Nat → Int32)) (v : Int32 × (Nat → Nat → Int32)), (∀ i x9, K i x9 = v) → ∀ (n i : Nat) (x9 : Int32), g1_X7_end c x n i x9 K = v := by
        intro K v hK n
        induction n with
        | zero => intro i x9; exact hK i x9
        | succ n ih =>
          intro i x9
          rw [g1_X7_end, ih, ih]
          split
          · rfl
          · split
            · split
              · rfl
              · split <;> rfl
            · rfl
      exact g _ _ (fun i x9 => by rw [h2]; exact if_pos rfl) 4 0 (-1)
    rw [hW] at hg7 ⊢; dsimp only at hg7 ⊢; rw [hR] at hg7 ⊢
    exact q_bad hI hg7 (by decide)
