theorem seq_ok {c S0 : Nat → Nat → Int32} {w0 : Nat → Int64} (h1 : zI1 c) (h2 : zI2 c) (h3 : zI3 c) (h4 : zI4 c) (e : zSg c S0) (hD : zDp c (S0 112)) : ∀ i, zSg c (sN S0 w0 i).1 ∧ zDp c ((sN S0 w0 i).1 112) ∧ (∀ x, x ≠ 111 → x ≠ 112 → x ≠ 122 → (sN S0 w0 i).1 x = S0 x) ∧ (∀ k, k ≠ 22 → k ≠ 23 → k ≠ 24 → (sN S0 w0 i).1 111 k = S0 111 k) ∧ (∀ x, x ≠ 111 → (sN S0 w0 i).2 x = w0 x) := by
  intro i
  induction i with
  | zero => exact ⟨e, hD, fun _ _ _ _ => rfl, fun _ _ _ _ => rfl, fun _ _ => rfl⟩
  | succ i ih =>
    obtain ⟨a1, a2, a3, a4, a5⟩ := ih
    obtain ⟨b1, b2, b3, b4⟩ := smp_step h1 h2 h3 h4 a1 a2
    obtain ⟨s1, s2, s3, s4, s5, s6, s7⟩ := sampled_is (sN S0 w0 i).1 (sN S0 w0 i).2
    have r : ∀ x, x ≠ 111 → x ≠ 112 → x ≠ 122 → (sN S0 w0 (i + 1)).1 x = (sN S0 w0 i).1 x := fun x h1 h2 h3 => funext fun q => by
      show (m_X7_sampled (sN S0 w0 i).1 (sN S0 w0 i).2).2.1 x q = _
      rw [s2 x q (by omega) h3, b2 x h2]
    have r1 : ∀ k, k ≠ 22 → k ≠ 23 → k ≠ 24 → (sN S0 w0 (i + 1)).1 111 k = (sN S0 w0 i).1 111 k := fun k h1 h2 h3 => by
      show (m_X7_sampled (sN S0 w0 i).1 (sN S0 w0 i).2).2.1 111 k = _
      rw [s2 111 k (by omega) (by decide), b2 111 (by decide)]
    have r2 : (sN S0 w0 (i + 1)).1 112 = (m_X7_samples (sN S0 w0 i).1).2 112 := funext fun q => s2 112 q (by omega) (by decide)
    refine ⟨⟨?_, ?_, fun x h1 h2 => ?_⟩, by rw [r2]; exact b4, fun x h1 h2 h3 => (r x h1 h2 h3).trans (a3 x h1 h2 h3), fun k h1 h2 h3 => (r1 k h1 h2 h3).trans (a4 k h1 h2 h3), fun x hx => ?_⟩
    · rw [r1 13 (by decide) (by decide) (by decide)]; exact a1.1
    · rw [r1 14 (by decide) (by decide) (by decide)]; exact a1.2.1
    · rw [r x (by omega) (by omega) (by omega)]; exact a1.2.2 x h1 h2
    · show (m_X7_sampled (sN S0 w0 i).1 (sN S0 w0 i).2).2.2 x = _
      rw [s7, va_up_ne _ _ hx]; exact a5 x hx
theorem seq_sm {c S0 : Nat → Nat → Int32} {w0 : Nat → Int64} (h1 : zI1 c) (h2 : zI2 c) (h3 : zI3 c) (h4 : zI4 c) (e : zSg c S0) (hD : zDp c (S0 112)) (i : Nat) : zSm c ((sN S0 w0 i).1 112) ((sN S0 w0 (i + 1)).1 112) ∧ (m_X7_samples (sN S0 w0 i).1).1 = (sN S0 w0 (i + 1)).1 112 (630 + zn (c 111 14)) ∧ (∀ q, (m_X7_samples (sN S0 w0 i).1).2 122 q = (sN S0 w0 i).1 122 q) := by
  obtain ⟨a1, a2, _⟩ := seq_ok (w0 := w0) h1 h2 h3 h4 e hD i
  obtain ⟨b1, b2, b3, b4⟩ := smp_step h1 h2 h3 h4 a1 a2
  have r2 : (sN S0 w0 (i + 1)).1 112 = (m_X7_samples (sN S0 w0 i).1).2 112 := funext fun q => (sampled_is (sN S0 w0 i).1 (sN S0 w0 i).2).2.1 112 q (by omega) (by decide)
  rw [r2]
  exact ⟨b1, b3, fun q => by rw [b2 122 (by decide)]⟩
theorem aN_o (F : Nat → Nat → Int32) (w : Nat → Int64) : ∀ i, (∀ x, x ≠ 106 → x ≠ 107 → (aN F w i).1 x = F x) ∧ ∀ x, x ≠ 106 → (aN F w i).2 x = w x := by
  intro i
  induction i with
  | zero => exact ⟨fun _ _ _ => rfl, fun _ _ => rfl⟩
  | succ i ih =>
    obtain ⟨n1, n2, n3, n4, n5, n6⟩ := note_is (aN F w i).1 (aN F w i).2 ((aN F w i).1 108 i)
    refine ⟨fun x h1 h2 => (funext fun q => n1 x q h1 h2).trans (ih.1 x h1 h2), fun x hx => ?_⟩
    show (m_X3_note (aN F w i).1 (aN F w i).2 ((aN F w i).1 108 i)).2 x = _
    rw [n6, va_up_ne _ _ hx]; exact ih.2 x hx
theorem seq_un {c : Nat → Nat → Int32} {R : Nat → Nat → Int32} (h : ∀ i, zSm c (R i) (R (i + 1))) : ∀ i k, zn (c 111 13) ≤ k → k < 10 → R i (600 + k) = R 0 (600 + k) ∧ R i (610 + k) = R 0 (610 + k) ∧ R i (620 + k) = R 0 (620 + k) ∧ R i (630 + k) = R 0 (630 + k) ∧ ∀ q, q < 60 → R i (60 * k + q) = R 0 (60 * k + q) := by
  intro i
  induction i with
  | zero => intro k _ _; exact ⟨rfl, rfl, rfl, rfl, fun _ _ => rfl⟩
  | succ i ih =>
    intro k hk hk10
    obtain ⟨a1, a2, a3, a4, a5⟩ := ih k hk hk10
    obtain ⟨b1, b2, b3, b4, b5⟩ := (h i).2.2.2 k hk hk10
    exact ⟨b1.trans a1, b2.trans a2, b3.trans a3, b4.trans a4, fun q hq => (b5 q hq).trans (a5 q hq)⟩
theorem seq_10 {c : Nat → Nat → Int32} {R : Nat → Nat → Int32} {T : Nat} (h : ∀ i, zSm c (R i) (R (i + 1))) (hT : T + 64 < 2 ^ 30) (h0 : ∀ v, v < 4 → zn (R 0 (640 + 16 * v + 10)) ≤ T) : ∀ i, i ≤ 64 → ∀ v, v < 4 → zn (R i (640 + 16 * v + 10)) ≤ T + i := by
  intro i
  induction i with
  | zero => intro _; exact h0
  | succ i ih => intro hi; exact sm10 (T := T + i) (h i) (by omega) (ih (by omega))
theorem inv_dp {c : Nat → Nat → Int32} (h2 : zI2 c) (h : zTr 34 c (c 112)) : zDp c (c 112) := fun k hk hd => by
  obtain ⟨_, _, p3, p4⟩ := (h2 k hk).2.2.2.1 hd
  have := ((h k hk).2.2 hd).2.1
  omega
theorem perf_ok {j : Nat} {c S0 : Nat → Nat → Int32} {w w0 : Nat → Int64} {ea : Nat → Nat → Int32} {z y : Nat} (hI : zInv j c w ea) (hj : j < 512) (hz1 : 1 ≤ z) (hz : z ≤ 64) (hy : y ≤ 64) (hc : ∀ x, x < 110 → S0 x = (aN (m_X4_find c ea 34 z y 108) w z).1 x) (hr : ∀ x, 110 ≤ x → x ≠ 111 → S0 x = c x) (hr1 : ∀ k, k ≠ 12 → S0 111 k = c 111 k) (hw1 : w0 111 = w 111) : m_X6_perform c w ea z y = ((m_X7_samples (sN S0 w0 (z - 1)).1).1, (aN (m_X4_find c ea 34 z y 108) w z).1, (aN (m_X4_find c ea 34 z y 108) w z).2) ∧ ∀ (E : Nat → Nat → Int32) (w9 : Nat → Int64), (∀ x, x ≠ 111 → E x = (sN S0 w0 z).1 x) → (∀ k, k ≠ 12 → E 111 k = (sN S0 w0 z).1 111 k) → w9 106 = (aN (m_X4_find c ea 34 z y 108) w z).2 106 → w9 111 = (sN S0 w0 z).2 111 → zG E → zLv (4000 * j + 2816) (E 112) → zn (E 111 22) ≤ zn (c 111 22) + 64 → zInv (j + 1) E w9 ea := by
  obtain ⟨g0, g1, g2, g2b, g3, g4, g5, g8, g9, g10, g11, g12, b1, b2, b3⟩ := hI
  have h10 := g1.2.2.1
  have e : zSg c S0 := ⟨hr1 13 (by decide), hr1 14 (by decide), fun x h1 h2 => hr x (by omega) (by omega)⟩
  have r0 : S0 112 = c 112 := hr 112 (by decide) (by decide)
  have hD : zDp c (S0 112) := by rw [r0]; exact inv_dp g2 g11
  have sm : ∀ i, zSm c ((sN S0 w0 i).1 112) ((sN S0 w0 (i + 1)).1 112) := fun i => (seq_sm (w0 := w0) g1 g2 g3 g4 e hD i).1
  have R0 : (sN S0 w0 0).1 112 = c 112 := r0
  have s10 := seq_10 (R := fun i => (sN S0 w0 i).1 112) (T := 4000 * j) sm (by omega) (fun v hv => by show zn ((sN S0 w0 0).1 112 (640 + 16 * v + 10)) ≤ _; rw [R0]; exact (b3 v hv).2.1)
  have fd := find_ok (c := c) (C := c) (ea := ea) (o := 34) (z := z) (y := y) (r := 108) (T := 4000 * j + 64) (m0 := zn (c 111 21)) (R := fun i => (sN S0 w0 i).1 112) (by decide) (by decide) (by decide) g1 g2 g3 g4 (fun _ _ => rfl) rfl hz hy (fun i _ => sm i) (fun i hi v hv => by have := s10 i (by omega) v hv; omega) (by omega) (by show zTr 34 c ((sN S0 w0 0).1 112); rw [R0]; exact g11) (by show zVo 34 c ea ((sN S0 w0 0).1 112) _; rw [R0]; exact g10)
  unfold m_X6_perform
  generalize m_X4_find c ea 34 z y 108 = F at hc fd
  obtain ⟨f1, f2, f3, f4, f5⟩ := fd
  have ao := aN_o F w
  have out : zn (c 1 1) = zn (c 111 14) := by rw [g1.2.2.2.1]
  have va : ∀ i, i < z → (aN F w i).1 108 i = (m_X7_samples (sN S0 w0 i).1).1 := fun i hi => by
    rw [(ao i).1 108 (by decide) (by decide), f2 i hi, (seq_sm (w0 := w0) g1 g2 g3 g4 e hD i).2.1, out]
  have mr : ∀ i, i ≤ z → zMr (aN F w i).1 (sN S0 w0 i).1 (aN F w i).2 (sN S0 w0 i).2 := by
    intro i
    induction i with
    | zero =>
      intro _
      obtain ⟨m1, m2, m3, m4, m5⟩ := g8
      have r106 : F 106 = c 106 := f1 106 (by decide) (by decide)
      have r107 : F 107 = c 107 := f1 107 (by decide) (by decide)
      refine ⟨?_, ?_, ?_, ?_, fun q hq => ?_⟩
      · show S0 111 22 = F 106 1
        rw [hr1 22 (by decide), r106, m1]
      · show S0 111 23 = F 106 2
        rw [hr1 23 (by decide), r106, m2]
      · show w0 111 = w 106
        rw [hw1, m3]
      · show S0 111 24 = F 106 4
        rw [hr1 24 (by decide), r106, m4]
      · show S0 122 q = F 107 q
        rw [hr 122 (by decide) (by decide), r107, m5 q hq]
    | succ i ih =>
      intro hi
      have h9 := (ih (by omega)).step (seq_sm (w0 := w0) g1 g2 g3 g4 e hD i).2.2
      rw [← va i (by omega)] at h9
      exact h9
  refine ⟨?_, fun E w9 hE hE1 hw6 hw11 hgE hLE hTE => ?_⟩
  · have h9 := perf_eq c w ea z y F (fun _ c1 w1 => (c1 108 (z - 1), c1, w1)) z 0
    rw [Nat.zero_add] at h9
    have h8 : g1_X6_perform c w ea z y z 0 F w (fun _ c1 w1 => (c1 108 (z - 1), c1, w1)) = ((aN F w z).1 108 (z - 1), (aN F w z).1, (aN F w z).2) := h9
    rw [h8, (ao z).1 108 (by decide) (by decide), f2 (z - 1) (by omega), (seq_sm (w0 := w0) g1 g2 g3 g4 e hD (z - 1)).2.1, out]
  · obtain ⟨q1, q2, q3, q4, q5⟩ := seq_ok (w0 := w0) g1 g2 g3 g4 e hD z
    have ca : ∀ x, x < 106 → E x = F x := fun x hx => by
      rw [hE x (by omega), q3 x (by omega) (by omega) (by omega), hc x (by omega), (ao z).1 x (by omega) (by omega)]
    have cc : ∀ x, x < 37 → E x = c x := fun x hx => by rw [ca x (by omega), f1 x (by omega) (by omega)]
    have cr : ∀ x, 114 ≤ x → x ≤ 121 → E x = c x := fun x h1 h2 => by rw [hE x (by omega)]; exact q1.2.2 x h1 h2
    have c1 : ∀ k, k ≠ 12 → k ≠ 22 → k ≠ 23 → k ≠ 24 → E 111 k = c 111 k := fun k h1 h2 h3 h4 => by rw [hE1 k h1, q4 k h2 h3 h4, hr1 k h1]
    have e112 : E 112 = (sN S0 w0 z).1 112 := hE 112 (by decide)
    have e21 : E 111 21 = c 111 21 := c1 21 (by decide) (by decide) (by decide) (by decide)
    have F14 : F 114 = c 114 := f1 114 (by decide) (by decide)
    refine ⟨hgE, g1.congr (fun i k h => ?_), g2.congr (fun i k h => ?_), g2b.congr (fun i k h => ?_), g3.congr h10 (fun i k h => ?_), g4.congr h10 (fun i k h => ?_), g5.congr (fun i k h => ?_), ?_, g9.congr (fun i k h => ?_) rfl, ?_, ?_, ?_, ?_⟩
    · rcases h with ⟨h, h'⟩ | ⟨h, h'⟩
      · rw [h]; exact c1 k (by omega) (by omega) (by omega) (by omega)
      · rw [cc i (by omega)]
    · by_cases h9 : i < 37
      · rw [cc i h9]
      · rw [cr i (by omega) (by omega)]
    · by_cases h9 : i < 37
      · rw [cc i h9]
      · rw [cr i (by omega) (by omega)]
    · by_cases h9 : i < 37
      · rw [cc i h9]
      · rw [cr i (by omega) (by omega)]
    · by_cases h9 : i < 37
      · rw [cc i h9]
      · rw [cr i (by omega) (by omega)]
    · by_cases h9 : i < 37
      · rw [cc i h9]
      · rw [cr i (by omega) (by omega)]
    · obtain ⟨m1, m2, m3, m4, m5⟩ := mr z (Nat.le_refl _)
      have x6 : E 106 = (aN F w z).1 106 := by rw [hE 106 (by decide), q3 106 (by decide) (by decide) (by decide), hc 106 (by decide)]
      have x7 : E 107 = (aN F w z).1 107 := by rw [hE 107 (by decide), q3 107 (by decide) (by decide) (by decide), hc 107 (by decide)]
      refine ⟨?_, ?_, ?_, ?_, fun q hq => ?_⟩
      · rw [hE1 22 (by decide), x6, m1]
      · rw [hE1 23 (by decide), x6, m2]
      · rw [hw11, hw6, m3]
      · rw [hE1 24 (by decide), x6, m4]
      · rw [hE 122 (by decide), x7, m5 q hq]
    · by_cases h9 : i < 37
      · rw [cc i h9]
      · have : i = 111 := by omega
        rw [this]; exact c1 k (by omega) (by omega) (by omega) (by omega)
    · rw [e112, e21]
      exact f4.congr (fun v hv => ca _ (by omega)) (fun _ _ => rfl) (fun _ _ _ => rfl)
    · rw [e112]
      exact f3.congr (c := F) (by rw [f1 1 (by decide) (by decide)]; exact h10) (by rw [ca 1 (by decide)]) (by rw [cr 114 (by decide) (by decide), F14]) (ca 4 (by decide)) (fun i hi => ca i (by omega)) (fun _ _ => rfl)
    · intro k hk hk10
      rw [cc 1 (by decide)] at hk
      obtain ⟨d1, d2, d3, d4, d5, d6, d7, d8⟩ := g12 k hk hk10
      obtain ⟨n1, n2, n3, n4⟩ := f5 k hk
      obtain ⟨u1, u2, u3, u4, u5⟩ := seq_un (R := fun i => (sN S0 w0 i).1 112) sm z k (by rw [g1.1]; exact hk) hk10
      rw [ca 56 (by decide), ca 57 (by decide), ca 69 (by decide), e112]
      refine ⟨n1.trans d1, n2.trans d2, n3.trans d3, ?_, ?_, ?_, ?_, fun q hq => ⟨?_, ?_⟩⟩
      · rw [← d4, ← R0]; exact u1
      · rw [← d5, ← R0]; exact u2
      · rw [← d6, ← R0]; exact u3
      · rw [← d7, ← R0]; exact u4
      · rw [ca (59 + k) (by omega), ← (d8 q hq).1]
        exact congrFun (n4 hk10) q
      · rw [← (d8 q hq).2, ← R0]; exact u5 q hq
    · exact ⟨by omega, by rw [e21]; omega, hLE.mono (by omega)⟩
theorem perf_2 (c : Nat → Nat → Int32) (w : Nat → Int64) (ea : Nat → Nat → Int32) (z y : Nat) : (m_X6_perform c w ea z y).2 = ((aN (m_X4_find c ea 34 z y 108) w z).1, (aN (m_X4_find c ea 34 z y 108) w z).2) := by
  unfold m_X6_perform
  generalize m_X4_find c ea 34 z y 108 = F
  have h9 := perf_eq c w ea z y F (fun _ c1 w1 => (c1 108 (z - 1), c1, w1)) z 0
  rw [Nat.zero_add] at h9
  exact congrArg Prod.snd h9
theorem step_gen {j : Nat} {c : Nat → Nat → Int32} {w : Nat → Int64} {ea : Nat → Nat → Int32} (hI : zInv j c w ea) (hj : j < 512) (z y : Nat) (hz : z = 1) (hy : y = 1) (S0 : Nat → Nat → Int32) (w0 : Nat → Int64) (hS0 : (m_X6_perform c w ea z y).2.1 = S0) (hw0 : (m_X6_perform c w ea z y).2.2 = w0) (hFw : zfr 34 110 34 34 c S0) (hg7 : zG (m_X7_step S0 w0).2.1) (h7 : zLv (4000 * j + 2816) ((m_X7_step S0 w0).2.1 112) ∧ zn ((m_X7_step S0 w0).2.1 111 22) ≤ zn (S0 111 22) + 64) : (m_X6_perform c w ea z y).1 = (m_X7_step S0 w0).1 ∧ zInv (j + 1) (m_X7_step S0 w0).2.1 (m_X7_step S0 w0).2.2 ea := by
  obtain ⟨hL7, hT7⟩ := h7
  have hP := perf_2 c w ea z y
  have hf : ∀ x, 110 ≤ x → S0 x = c x := fun x hx => hFw x (by omega)
  have a1 : S0 = (aN (m_X4_find c ea 34 z y 108) w z).1 := by rw [← hS0, hP]
  have a2 : w0 = (aN (m_X4_find c ea 34 z y 108) w z).2 := by rw [← hw0, hP]
  obtain ⟨p1, p2⟩ := perf_ok (S0 := S0) (w0 := w0) (z := z) (y := y) hI hj (by omega) (by omega) (by omega) (fun x _ => by rw [a1]) (fun x hx _ => hf x hx) (fun k _ => by rw [hf 111 (by decide)]) (by rw [a2]; exact (aN_o _ w z).2 111 (by decide))
  have e1 : sN S0 w0 z = ((m_X7_sampled S0 w0).2.1, (m_X7_sampled S0 w0).2.2) := by rw [hz]; rfl
  have e0 : sN S0 w0 (z - 1) = (S0, w0) := by rw [hz]; rfl
  rw [e0] at p1
  rw [e1] at p2
  unfold m_X7_step m_X7_plain at hg7 hL7 hT7 ⊢
  dsimp only at hg7 hL7 hT7 p1 p2 ⊢
  have e7 := sampled_is S0 w0
  refine ⟨?_, p2 _ _ (fun x hx => zup_i _ _ _ hx) (fun k hk => zup_k _ _ hk) ?_ rfl hg7 hL7 ?_⟩
  · rw [p1]; exact e7.1.symm
  · rw [e7.2.2.2.2.2.2, va_up_ne _ _ (by decide), a2]
  · rw [← hf 111 (by decide)]; exact hT7
theorem pP_step : zP_step zInv := by
  intro j c w en ea hI hj
  have key := step_gen hI hj 1 1 rfl rfl
  unfold m_X6_step
  generalize m_X6_perform c w ea 1 1 = P at key ⊢
  intro hFw hgw hF7 hg7 h7
  exact key P.2.1 P.2.2 rfl rfl hFw hg7 h7
