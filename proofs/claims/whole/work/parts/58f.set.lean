theorem zw_char {x : Int32} (h : x = 115 ∨ x = 113 ∨ x = 116) : (x.toUInt32 % 65536).toInt32 = x := by
  rcases h with rfl | rfl | rfl <;> decide
theorem setWave_ok {j : Nat} {c : Nat → Nat → Int32} {w : Nat → Int64} {ea : Nat → Nat → Int32} {x : Int32} (hI : zInv j c w ea) (hx : x = 115 ∨ x = 113 ∨ x = 116) (hg7 : zG (zup (zup (zup c 0 6 x) 111 12 0) 111 15 x)) : zup (zup (zup c 0 6 x) 111 12 0) 111 15 x 111 12 = 0 ∧ ((0 : Int32) = 0 → va_up w 124 (c 0 6).toInt64 124 = (((zup (zup c 0 6 x) 111 12 0 111 15).toUInt32 % 65536).toInt32).toInt64) ∧ zInv (j + 1) (zup (zup (zup c 0 6 x) 111 12 0) 111 15 x) (va_up w 124 (c 0 6).toInt64) ea := by
  have hI' := hI
  obtain ⟨g0, g1, g2, g2b, g3, g4, g5, g8, g9, g10, g11, g12, g13⟩ := hI'
  have h10 := g1.2.2.1
  have H : ∀ i k, ¬ (i = 0 ∧ k = 6) → ¬ (i = 111 ∧ (k = 12 ∨ k = 15)) → zup (zup (zup c 0 6 x) 111 12 0) 111 15 x i k = c i k := fun i k a1 a2 => by
    rw [zup_at, if_neg (by omega), zup_at, if_neg (by omega), zup_at, if_neg (by omega)]
  refine ⟨by rw [zup_k _ _ (by decide), zup_s], fun _ => ?_, hg7, g1.congr (fun i k h => H i k (by omega) (by omega)), g2.congr (fun i k h => H i k (by omega) (by omega)), g2b.congr (fun i k h => H i k (by omega) (by omega)), g3.congr h10 (fun i k h => H i k (by omega) (by omega)), g4.congr h10 (fun i k h => H i k (by omega) (by omega)), g5.congr (fun i k h => H i k (by omega) (by omega)), g8.congr (fun i k h => H i k (by omega) (by omega)) ⟨rfl, rfl⟩, ?_, ?_, ?_, g12.congr (fun i k h => H i k (by omega) (by omega)), (g13.congr (fun i k h => H i k (by omega) (by omega))).mono⟩
  · rw [zup_k _ _ (by decide), zup_i _ _ _ (by decide), g9.1, zw_char g9.2.1]
    simp [va_up]
  · obtain ⟨a1, a2, a3, a4, a5, a6, a7, a8, a9, a10, a11⟩ := g9
    unfold zE9
    rw [H 111 16 (by omega) (by omega), H 111 17 (by omega) (by omega), H 111 18 (by omega) (by omega), H 111 19 (by omega) (by omega), H 111 20 (by omega) (by omega), H 111 21 (by omega) (by omega), H 35 1 (by omega) (by omega), H 35 2 (by omega) (by omega), zup_s, show zup (zup (zup c 0 6 x) 111 12 0) 111 15 x 0 6 = x by rw [zup_i _ _ _ (by decide), zup_i _ _ _ (by decide), zup_s]]
    exact ⟨rfl, hx, a3, a4, a5, a6, a7, a8, a9, a10, a11⟩
  · rw [H 111 21 (by omega) (by omega)]
    exact g10.congr (fun v hv => funext fun k => H _ k (by omega) (by omega)) (fun _ _ => rfl) (fun q _ _ => H 112 q (by omega) (by omega))
  · exact g11.congr h10 (H 1 0 (by omega) (by omega)) (funext fun k => H 114 k (by omega) (by omega)) (funext fun k => H 4 k (by omega) (by omega)) (fun i hi => funext fun k => H i k (by omega) (by omega)) (fun q _ => H 112 q (by omega) (by omega))
theorem pP_setWave : zP_setWave zInv := by
  intro j c w en ea x hI hj hx hF hgw hF7 hg7
  have good : (x = 115 ∨ x = 113 ∨ x = 116) → w_L_setWave c w x = (0, zup c 0 6 x, va_up w 124 (c 0 6).toInt64) ∧ ∀ c1, m_X7_setWave c1 x = (((zup c1 111 12 0 111 15).toUInt32 % 65536).toInt32, zup (zup c1 111 12 0) 111 15 x) := by
    intro h
    rcases h with rfl | rfl | rfl
    · refine ⟨by unfold w_L_setWave m_X6_setWave; rfl, fun c1 => by unfold m_X7_setWave; rw [if_pos rfl, ck_one]⟩
    · refine ⟨by unfold w_L_setWave m_X6_setWave; rfl, fun c1 => by unfold m_X7_setWave; rw [if_neg (by decide), if_pos rfl, ck_one]⟩
    · refine ⟨by unfold w_L_setWave m_X6_setWave; rfl, fun c1 => by unfold m_X7_setWave; rw [if_neg (by decide), if_neg (by decide), if_pos rfl, ck_one]⟩
  by_cases h : x = 115 ∨ x = 113 ∨ x = 116
  · obtain ⟨hW, hR⟩ := good h
    rw [hW] at hg7 ⊢; dsimp only at hg7 ⊢; rw [hR] at hg7 ⊢; dsimp only at hg7 ⊢
    exact setWave_ok hI h hg7
  · have n1 : ¬ x = 115 := fun q => h (Or.inl q)
    have n2 : ¬ x = 113 := fun q => h (Or.inr (Or.inl q))
    have n3 : ¬ x = 116 := fun q => h (Or.inr (Or.inr q))
    have hW : w_L_setWave c w x = (1, c, w) := by unfold w_L_setWave m_X6_setWave; rw [if_neg n1, if_neg n2, if_neg n3]; show (nI (lcd _ _), _) = _; rw [lcd_h]; rfl
    have hR : m_X7_setWave c x = (97, zup c 111 12 1) := by unfold m_X7_setWave; rw [if_neg n1, if_neg n2, if_neg n3, ck_zero]
    rw [hW] at hg7 ⊢; dsimp only at hg7 ⊢; rw [hR] at hg7 ⊢
    exact q_bad hI hg7 (by decide)
theorem zdd {x : UInt64} (h : vf_n64 x) : Op.cmpValue (FP.dcmp x x) .l = 0 := by
  have h9 := Jvm.Free.Fl.dcmp_of_noNaN64 h
  revert h9
  rcases FP.dcmp x x with _ | (_ | _ | _)
  · intro h9; exact absurd h9 (by decide)
  · intro h9; exact absurd h9 (by decide)
  · intro _; rfl
  · intro h9; exact absurd h9 (by decide)
theorem pP_meanEnergy : zP_meanEnergy zInv := by
  intro j c w en ea hI hj hF7 hg7
  have hI' := hI
  obtain ⟨g0, g1, g2, g2b, g3, g4, g5, g8, g9, g10, g11, g12, g13⟩ := hI'
  have ht := g13.1
  by_cases h : c 106 1 = 0
  · have hS : m_X6_refuseSilence c = .inl "java/lang/ArithmeticException" := by unfold m_X6_refuseSilence; exact if_pos h
    have hW : w_L_meanEnergy c w = (1, w) := by unfold w_L_meanEnergy m_X6_meanEnergy xb; rw [hS]; show (nI (lcd _ _), _) = _; rw [lcd_h]; rfl
    have hR : m_X7_meanEnergy c w = (FP.dconst0, zup c 111 12 1) := by unfold m_X7_meanEnergy; rw [g8.1, h, if_pos (show (0 : Int32) ≤ 0 by decide), ck_zero]
    rw [hW] at hg7 ⊢; dsimp only at hg7 ⊢; rw [hR] at hg7 ⊢; dsimp only at hg7 ⊢
    exact ⟨zup_s _ _ _ _, fun q => absurd q (by decide), hI.congr (zth 1) hg7 ⟨rfl, rfl⟩ ⟨rfl, fun _ _ => rfl⟩⟩
  · have hS : m_X6_refuseSilence c = .inr () := by unfold m_X6_refuseSilence; exact if_neg h
    have hn : ¬ c 111 22 ≤ 0 := fun q => h (by rw [← g8.1]; exact z_le0 (by omega) q)
    have hW : w_L_meanEnergy c w = (0, va_up w 125 (FP.ddiv (FP.l2d (w 106)) (FP.i2d (c 106 1))).toInt64) := by unfold w_L_meanEnergy m_X6_meanEnergy xb; rw [hS]
    have hR : ∀ w1, m_X7_meanEnergy c w1 = (FP.ddiv (FP.l2d (w1 111)) (FP.i2d (c 111 22)), zup c 111 12 0) := by intro w1; unfold m_X7_meanEnergy; rw [if_neg hn, ck_one]
    rw [hW] at hg7 ⊢; dsimp only at hg7 ⊢; rw [hR] at hg7 ⊢; dsimp only at hg7 ⊢
    refine ⟨zup_s _ _ _ _, fun _ => ?_, hI.congr (zth 0) hg7 ⟨rfl, rfl⟩ ⟨rfl, fun _ _ => rfl⟩⟩
    rw [show va_up w 125 (FP.ddiv (FP.l2d (w 106)) (FP.i2d (c 106 1))).toInt64 125 = (FP.ddiv (FP.l2d (w 106)) (FP.i2d (c 106 1))).toInt64 by simp [va_up], show va_up w 125 (FP.ddiv (FP.l2d (w 106)) (FP.i2d (c 106 1))).toInt64 111 = w 111 from rfl, g8.2.2.1, g8.1]
    exact zdd (zfp_dd _ h)
theorem pP_quietShare : zP_quietShare zInv := by
  intro j c w en ea hI hj hF7 hg7
  have hI' := hI
  obtain ⟨g0, g1, g2, g2b, g3, g4, g5, g8, g9, g10, g11, g12, g13⟩ := hI'
  have ht := g13.1
  by_cases h : c 106 1 = 0
  · have hS : m_X6_refuseSilence c = .inl "java/lang/ArithmeticException" := by unfold m_X6_refuseSilence; exact if_pos h
    have hW : w_L_quietShare c w = (1, w) := by unfold w_L_quietShare m_X6_quietShare xb; rw [hS]; show (nI (lcd _ _), _) = _; rw [lcd_h]; rfl
    have hR : m_X7_quietShare c = (FP.fconst0, zup c 111 12 1) := by unfold m_X7_quietShare; rw [g8.1, h, if_pos (show (0 : Int32) ≤ 0 by decide), ck_zero]
    rw [hR] at hg7; rw [hW, hR]; dsimp only at hg7 ⊢
    exact ⟨zup_s _ _ _ _, fun q => absurd q (by decide), hI.congr (zth 1) hg7 ⟨rfl, rfl⟩ ⟨rfl, fun _ _ => rfl⟩⟩
  · have hS : m_X6_refuseSilence c = .inr () := by unfold m_X6_refuseSilence; exact if_neg h
    have hn : ¬ c 111 22 ≤ 0 := fun q => h (by rw [← g8.1]; exact z_le0 (by omega) q)
    have hW : w_L_quietShare c w = (0, va_up w 125 (FP.f2d (FP.fdiv (FP.i2f (c 106 4)) (FP.i2f (c 106 1)))).toInt64) := by unfold w_L_quietShare m_X6_quietShare xb; rw [hS]
    have hR : m_X7_quietShare c = (FP.fdiv (FP.i2f (c 111 24)) (FP.i2f (c 111 22)), zup c 111 12 0) := by unfold m_X7_quietShare; rw [if_neg hn, ck_one]
    rw [hR] at hg7; rw [hW, hR]; dsimp only at hg7 ⊢
    refine ⟨zup_s _ _ _ _, fun _ => ?_, hI.congr (zth 0) hg7 ⟨rfl, rfl⟩ ⟨rfl, fun _ _ => rfl⟩⟩
    rw [show va_up w 125 (FP.f2d (FP.fdiv (FP.i2f (c 106 4)) (FP.i2f (c 106 1)))).toInt64 125 = (FP.f2d (FP.fdiv (FP.i2f (c 106 4)) (FP.i2f (c 106 1)))).toInt64 by simp [va_up], g8.2.2.2.1, g8.1]
    exact zdd (zfp_fd (zfp_ff _ h))
