theorem lay_o (c : Nat → Nat → Int32) (v k : Nat) (x : Int32) {i q : Nat} (h : ¬ (i = 112 ∧ q = 640 + 16 * v + k)) : m_X7_lay c v k x i q = c i q := by
  unfold m_X7_lay; rw [zup_at, if_neg h]
/-- what releases leaves as it is -/
theorem releases_o (c : Nat → Nat → Int32) (v : Nat) {i k : Nat} (h1 : ¬ (i = 111 ∧ k = 21)) (h2 : i = 112 → ∀ q, q < 16 → k ≠ 640 + 16 * v + q) : m_X7_releases c v i k = c i k := by
  have e : zup (m_X7_lay (m_X7_lay (m_X7_lay (m_X7_lay c v 1 1) v 11 (m_X7_levelAt c v)) v 12 0) v 14 (c 111 21)) 111 21 (c 111 21 + 1) i k = c i k := by
    rw [zup_at, if_neg h1, lay_o _ _ _ _ (fun z => h2 z.1 14 (by decide) z.2), lay_o _ _ _ _ (fun z => h2 z.1 12 (by decide) z.2), lay_o _ _ _ _ (fun z => h2 z.1 11 (by decide) z.2), lay_o _ _ _ _ (fun z => h2 z.1 1 (by decide) z.2)]
  unfold m_X7_releases
  split
  · rw [lay_o _ _ _ _ (fun z => h2 z.1 0 (by decide) z.2)]; exact e
  · exact e
theorem releases_calls (c : Nat → Nat → Int32) (v : Nat) : m_X7_releases c v 111 21 = c 111 21 + 1 := by
  unfold m_X7_releases
  split
  · rw [lay_o _ _ _ _ (fun z => by omega), zup_s]
  · rw [zup_s]
theorem releases_v (c : Nat → Nat → Int32) (v : Nat) {q : Nat} (hq : q < 16) : m_X7_releases c v 112 (640 + 16 * v + q) = if q = 1 then 1 else if q = 11 then m_X7_levelAt c v else if q = 12 then 0 else if q = 14 then c 111 21 else if q = 0 ∧ c 112 (640 + 16 * v + 8) = 0 then 0 else c 112 (640 + 16 * v + q) := by
  have e : ∀ q, q < 16 → zup (m_X7_lay (m_X7_lay (m_X7_lay (m_X7_lay c v 1 1) v 11 (m_X7_levelAt c v)) v 12 0) v 14 (c 111 21)) 111 21 (c 111 21 + 1) 112 (640 + 16 * v + q) = if q = 1 then 1 else if q = 11 then m_X7_levelAt c v else if q = 12 then 0 else if q = 14 then c 111 21 else c 112 (640 + 16 * v + q) := by
    intro q hq
    rw [zup_i _ _ _ (by decide)]
    by_cases q14 : q = 14
    · subst q14; rw [zlay_s]; rfl
    · rw [zlay_e _ (by decide) hq (Or.inr q14)]
      by_cases q12 : q = 12
      · subst q12; rw [zlay_s]; rfl
      · rw [zlay_e _ (by decide) hq (Or.inr q12)]
        by_cases q11 : q = 11
        · subst q11; rw [zlay_s]; rfl
        · rw [zlay_e _ (by decide) hq (Or.inr q11)]
          by_cases q1 : q = 1
          · subst q1; rw [zlay_s]; rfl
          · rw [zlay_e _ (by decide) hq (Or.inr q1), if_neg q1, if_neg q11, if_neg q12, if_neg q14]
  have e8 : m_X7_at (zup (m_X7_lay (m_X7_lay (m_X7_lay (m_X7_lay c v 1 1) v 11 (m_X7_levelAt c v)) v 12 0) v 14 (c 111 21)) 111 21 (c 111 21 + 1)) v 8 = c 112 (640 + 16 * v + 8) := by
    unfold m_X7_at; rw [e 8 (by decide)]; rfl
  unfold m_X7_releases
  rw [e8]
  by_cases h : c 112 (640 + 16 * v + 8) = 0
  · rw [if_pos h]
    by_cases q0 : q = 0
    · subst q0; rw [zlay_s, if_neg (by decide), if_neg (by decide), if_neg (by decide), if_neg (by decide), if_pos ⟨rfl, h⟩]
    · rw [zlay_e _ (by decide) hq (Or.inr q0), e q hq, if_neg (fun z : q = 0 ∧ _ => q0 z.1)]
  · rw [if_neg h, e q hq, if_neg (fun z : q = 0 ∧ _ => h z.2)]
/-- what the class's release leaves as it is, what it writes -/
theorem crelease_o (c ea : Nat → Nat → Int32) (o v : Nat) (x : Int32) {i k : Nat} (h : i ≠ o + 3 + 2 * v) : m_X5_release c ea o v x i k = c i k := by
  unfold m_X5_release
  split <;> rw [zup_i _ _ _ h, zup_i _ _ _ h, zup_i _ _ _ h, zup_i _ _ _ h, zup_i _ _ _ h]
theorem crelease_v (c ea : Nat → Nat → Int32) (o v : Nat) (x : Int32) (q : Nat) : m_X5_release c ea o v x (o + 3 + 2 * v) q = if q = 0 then (if ea (o + 3 + 2 * v) 3 ≤ 0 then 0 else 1) else if q = 9 then x else if q = 1 then 1 else if q = 12 then 0 else if q = 11 then m_X5_level c ea o v else c (o + 3 + 2 * v) q := by
  have e : ∀ z : Int32, zup (zup (zup (zup (zup c (o + 3 + 2 * v) 11 (m_X5_level c ea o v)) (o + 3 + 2 * v) 12 0) (o + 3 + 2 * v) 1 1) (o + 3 + 2 * v) 9 x) (o + 3 + 2 * v) 0 z (o + 3 + 2 * v) q = if q = 0 then z else if q = 9 then x else if q = 1 then 1 else if q = 12 then 0 else if q = 11 then m_X5_level c ea o v else c (o + 3 + 2 * v) q := by
    intro z
    by_cases q0 : q = 0
    · subst q0; rw [zup_s]; rfl
    · rw [zup_k _ _ q0, if_neg q0]
      by_cases q9 : q = 9
      · subst q9; rw [zup_s]; rfl
      · rw [zup_k _ _ q9, if_neg q9]
        by_cases q1 : q = 1
        · subst q1; rw [zup_s]; rfl
        · rw [zup_k _ _ q1, if_neg q1]
          by_cases q12 : q = 12
          · subst q12; rw [zup_s]; rfl
          · rw [zup_k _ _ q12, if_neg q12]
            by_cases q11 : q = 11
            · subst q11; rw [zup_s]; rfl
            · rw [zup_k _ _ q11, if_neg q11]
  unfold m_X5_release
  by_cases h : ea (o + 3 + 2 * v) 3 ≤ 0
  · rw [if_pos h, if_pos h]; exact e 0
  · rw [if_neg h, if_neg h]; exact e 1
/-- a held voice that is released, on both sides -/
theorem zVp.release {c ea c1 c' : Nat → Nat → Int32} {o v T m : Nat} {x : Int32} (h : zVp (c (o + 3 + 2 * v)) (ea (o + 3 + 2 * v)) (fun q => c' 112 (640 + 16 * v + q)) m) (h0 : ¬ c (o + 3 + 2 * v) 0 = 0) (h1 : c (o + 3 + 2 * v) 1 = 0) (hc1 : ∀ k, c1 (o + 3 + 2 * v) k = c (o + 3 + 2 * v) k) (hT : zn (c' 112 (640 + 16 * v + 10)) ≤ T) (hT2 : T < 2 ^ 30) (hx : x = c' 111 21 + 1) (hm : zn (c' 111 21) = m) : zVp (m_X5_release c1 ea o v x (o + 3 + 2 * v)) (ea (o + 3 + 2 * v)) (fun q => m_X7_releases c' v 112 (640 + 16 * v + q)) (m + 1) := by
  have hc1' : c1 (o + 3 + 2 * v) = c (o + 3 + 2 * v) := funext hc1
  have hl : m_X5_level c1 ea o v = m_X7_levelAt c' v := level_eq (by rw [hc1']; exact h) hT hT2
  obtain ⟨on1, on2⟩ := h.on h0
  obtain ⟨_, _, h3⟩ := id h
  obtain ⟨a1, a2, a3, a4, a5, a6, a7, e0, e1, e2, e3, b5, b6, b8, a8, a9, a10, a11, a12, a13, a14⟩ := h3 on2
  dsimp only at a1 a2 a3 a4 a5 a6 a7 e0 e1 e2 e3 b5 b6 b8 a8 a9 a10 a11 a12 a13
  have S := crelease_v c1 ea o v x
  have P : ∀ q, q < 16 → _ := fun q hq => releases_v c' v (q := q) hq
  have s0 : m_X5_release c1 ea o v x (o + 3 + 2 * v) 0 = (if ea (o + 3 + 2 * v) 3 ≤ 0 then 0 else 1) := (S 0).trans rfl
  have s1 : m_X5_release c1 ea o v x (o + 3 + 2 * v) 1 = (1) := (S 1).trans rfl
  have s2 : m_X5_release c1 ea o v x (o + 3 + 2 * v) 2 = (c (o + 3 + 2 * v) 2) := (S 2).trans (hc1 2)
  have s3 : m_X5_release c1 ea o v x (o + 3 + 2 * v) 3 = (c (o + 3 + 2 * v) 3) := (S 3).trans (hc1 3)
  have s4 : m_X5_release c1 ea o v x (o + 3 + 2 * v) 4 = (c (o + 3 + 2 * v) 4) := (S 4).trans (hc1 4)
  have s6 : m_X5_release c1 ea o v x (o + 3 + 2 * v) 6 = (c (o + 3 + 2 * v) 6) := (S 6).trans (hc1 6)
  have s7 : m_X5_release c1 ea o v x (o + 3 + 2 * v) 7 = (c (o + 3 + 2 * v) 7) := (S 7).trans (hc1 7)
  have s8 : m_X5_release c1 ea o v x (o + 3 + 2 * v) 8 = (c (o + 3 + 2 * v) 8) := (S 8).trans (hc1 8)
  have s9 : m_X5_release c1 ea o v x (o + 3 + 2 * v) 9 = (x) := (S 9).trans rfl
  have s10 : m_X5_release c1 ea o v x (o + 3 + 2 * v) 10 = (c (o + 3 + 2 * v) 10) := (S 10).trans (hc1 10)
  have s11 : m_X5_release c1 ea o v x (o + 3 + 2 * v) 11 = (m_X5_level c1 ea o v) := (S 11).trans rfl
  have s12 : m_X5_release c1 ea o v x (o + 3 + 2 * v) 12 = (0) := (S 12).trans rfl
  have p1 : m_X7_releases c' v 112 (640 + 16 * v + 1) = (1) := P 1 (by decide)
  have p2 : m_X7_releases c' v 112 (640 + 16 * v + 2) = (c' 112 (640 + 16 * v + 2)) := P 2 (by decide)
  have p3 : m_X7_releases c' v 112 (640 + 16 * v + 3) = (c' 112 (640 + 16 * v + 3)) := P 3 (by decide)
  have p4 : m_X7_releases c' v 112 (640 + 16 * v + 4) = (c' 112 (640 + 16 * v + 4)) := P 4 (by decide)
  have p5 : m_X7_releases c' v 112 (640 + 16 * v + 5) = (c' 112 (640 + 16 * v + 5)) := P 5 (by decide)
  have p6 : m_X7_releases c' v 112 (640 + 16 * v + 6) = (c' 112 (640 + 16 * v + 6)) := P 6 (by decide)
  have p7 : m_X7_releases c' v 112 (640 + 16 * v + 7) = (c' 112 (640 + 16 * v + 7)) := P 7 (by decide)
  have p8 : m_X7_releases c' v 112 (640 + 16 * v + 8) = (c' 112 (640 + 16 * v + 8)) := P 8 (by decide)
  have p9 : m_X7_releases c' v 112 (640 + 16 * v + 9) = (c' 112 (640 + 16 * v + 9)) := P 9 (by decide)
  have p10 : m_X7_releases c' v 112 (640 + 16 * v + 10) = (c' 112 (640 + 16 * v + 10)) := P 10 (by decide)
  have p11 : m_X7_releases c' v 112 (640 + 16 * v + 11) = (m_X7_levelAt c' v) := P 11 (by decide)
  have p12 : m_X7_releases c' v 112 (640 + 16 * v + 12) = (0) := P 12 (by decide)
  have p13 : m_X7_releases c' v 112 (640 + 16 * v + 13) = (c' 112 (640 + 16 * v + 13)) := P 13 (by decide)
  have p14 : m_X7_releases c' v 112 (640 + 16 * v + 14) = (c' 111 21) := P 14 (by decide)
  unfold zVp
  dsimp only
  rw [s0, s1, s2, s3, s4, s6, s7, s8, s9, s10, s11, s12, p1, p2, p3, p4, p5, p6, p7, p8, p9, p10, p11, p12, p13, p14, e3]
  have pz : m_X7_releases c' v 112 (640 + 16 * v + 0) = (if (0 : Nat) = 0 ∧ c' 112 (640 + 16 * v + 8) = 0 then 0 else c' 112 (640 + 16 * v + 0)) := P 0 (by decide)
  by_cases k : c' 112 (640 + 16 * v + 8) = 0
  · have p0 : m_X7_releases c' v 112 (640 + 16 * v + 0) = 0 := pz.trans (if_pos ⟨rfl, k⟩)
    rw [p0, if_pos (show c' 112 (640 + 16 * v + 8) ≤ 0 by rw [k]; decide)]
    exact ⟨rfl, Or.inl rfl, fun q => absurd q (by decide)⟩
  · have p0 : m_X7_releases c' v 112 (640 + 16 * v + 0) = 1 := (pz.trans (if_neg (fun z => k z.2))).trans on2
    have k2 : 1 ≤ zn (c' 112 (640 + 16 * v + 8)) := by
      have : zn (c' 112 (640 + 16 * v + 8)) ≠ 0 := fun q => k (zn_inj q)
      omega
    rw [p0, if_neg (z_pos k2 (by omega))]
    refine ⟨rfl, Or.inr rfl, fun _ => ⟨rfl, Or.inr rfl, a3, a4, a5, a6, a7, e0, e1, e2, rfl, b5, b6, b8, a8, a9, a10, a11, by omega, a13, fun _ => ⟨hx, by omega, hl, rfl, ?_⟩⟩⟩
    show 0 < _
    omega
