section
variable {c c' : Nat → Nat → Int32}
theorem at_th (x : Int32) (k v q : Nat) : m_X7_at (zup c 111 k x) v q = m_X7_at c v q := by
  unfold m_X7_at; rw [zup_i _ _ _ (by decide)]
theorem plays_th (x : Int32) (k v : Nat) : m_X7_plays (zup c 111 k x) v = m_X7_plays c v := by
  unfold m_X7_plays; rw [at_th]
theorem isReleased_th (x : Int32) (k v : Nat) : m_X7_isReleased (zup c 111 k x) v = m_X7_isReleased c v := by
  unfold m_X7_isReleased; rw [plays_th, at_th]
theorem levelAt_th (x : Int32) (k v : Nat) : m_X7_levelAt (zup c 111 k x) v = m_X7_levelAt c v := by
  unfold m_X7_levelAt; simp only [plays_th, isReleased_th, at_th]
variable {s e : Nat → Int32} {m v : Nat}
theorem zVp.plays (h : zVp s e (fun q => c' 112 (640 + 16 * v + q)) m) : m_X7_plays c' v = s 0 := by
  obtain ⟨h1, h2, _⟩ := h
  unfold m_X7_plays m_X7_at
  rw [h1]
  rcases h2 with h2 | h2
  · rw [if_neg (by rw [show c' 112 (640 + 16 * v + 0) = 0 from h2]; decide)]; exact h2.symm
  · rw [if_pos h2]; exact h2.symm
theorem zVp.on (h : zVp s e (fun q => c' 112 (640 + 16 * v + q)) m) (h0 : ¬ s 0 = 0) : s 0 = 1 ∧ c' 112 (640 + 16 * v + 0) = 1 := by
  obtain ⟨h1, h2, _⟩ := h
  rcases h2 with h2 | h2
  · exact absurd (h1.trans h2) h0
  · exact ⟨h1.trans h2, h2⟩
theorem zVp.rel (h : zVp s e (fun q => c' 112 (640 + 16 * v + q)) m) (h0 : ¬ s 0 = 0) : m_X7_isReleased c' v = s 1 := by
  have h9 := h.on h0
  unfold m_X7_isReleased
  rw [h.plays, if_neg h0]
  obtain ⟨_, _, h3⟩ := h
  obtain ⟨a1, a2, _⟩ := h3 h9.2
  unfold m_X7_at
  rw [a1]
  rcases a2 with a2 | a2
  · rw [if_neg (by rw [show c' 112 (640 + 16 * v + 1) = 0 from a2]; decide)]; exact a2.symm
  · rw [if_pos a2]; exact a2.symm
theorem z_nn {x : Int32} {n : Nat} (h : zn x ≤ n) (hn : n < 2 ^ 31) : 0 ≤ x := (z_le (a := 0) rfl (zn_eq x) (by decide) (by omega)).mpr (Nat.zero_le _)
theorem z_pos {x : Int32} (h : 1 ≤ zn x) (hn : zn x < 2 ^ 31) : ¬ x ≤ 0 := fun q => by
  have := (z_le (b := 0) (zn_eq x) rfl hn (by decide)).mp q
  omega
theorem z_le0 {x : Int32} (hn : zn x < 2 ^ 31) (q : x ≤ 0) : x = 0 := zn_inj (by
  have := (z_le (b := 0) (zn_eq x) rfl hn (by decide)).mp q
  show zn x = 0
  omega)
theorem zsub {x y : Int32} (h : zn y ≤ zn x) : x - y = nI (zn x - zn y) := by rw [← nI_sub h, ← zn_eq, ← zn_eq]
end
/-- a voice's level on both sides -/
theorem level_eq {o v T m : Nat} {c ea c' : Nat → Nat → Int32} (h : zVp (c (o + 3 + 2 * v)) (ea (o + 3 + 2 * v)) (fun q => c' 112 (640 + 16 * v + q)) m) (hT : zn (c' 112 (640 + 16 * v + 10)) ≤ T) (hT2 : T < 2 ^ 30) : m_X5_level c ea o v = m_X7_levelAt c' v := by
  unfold m_X5_level m_X7_levelAt
  rw [h.plays]
  by_cases h0 : c (o + 3 + 2 * v) 0 = 0
  · rw [if_pos h0, if_pos h0]
  · rw [if_neg h0, if_neg h0, h.rel h0]
    obtain ⟨_, _, h3⟩ := id h
    obtain ⟨a1, a2, a3, a4, a5, a6, a7, e0, e1, e2, e3, b5, b6, b8, a8, a9, a10, a11, a12, a13, a14⟩ := h3 (h.on h0).2
    dsimp only at a13 e0 e1 e2 e3 b5 b6 b8
    by_cases h1 : c (o + 3 + 2 * v) 1 = 0
    · rw [if_pos h1, if_pos h1, e0, e1, e2, a13]
      unfold m_X7_at
      by_cases k0 : c' 112 (640 + 16 * v + 5) ≤ 0
      · have k1 := z_le0 (by omega) k0
        rw [if_pos k0, if_pos (show c' 112 (640 + 16 * v + 5) ≤ c' 112 (640 + 16 * v + 10) by rw [k1]; exact z_nn hT (by omega))]
        by_cases k2 : c' 112 (640 + 16 * v + 6) ≤ 0
        · have k3 := z_le0 (by omega) k2
          rw [if_pos k2, if_pos (show c' 112 (640 + 16 * v + 6) ≤ c' 112 (640 + 16 * v + 10) - c' 112 (640 + 16 * v + 5) by
            rw [k3, k1, Int32.sub_zero]; exact z_nn hT (by omega))]
        · rw [if_neg k2]
      · rw [if_neg k0]
        by_cases k1 : c' 112 (640 + 16 * v + 5) ≤ c' 112 (640 + 16 * v + 10)
        · rw [if_pos k1, if_pos k1]
          have k4 := (z_le (zn_eq _) (zn_eq _) (by omega) (by omega)).mp k1
          by_cases k2 : c' 112 (640 + 16 * v + 6) ≤ 0
          · have k3 := z_le0 (by omega) k2
            rw [if_pos k2, if_pos (show c' 112 (640 + 16 * v + 6) ≤ c' 112 (640 + 16 * v + 10) - c' 112 (640 + 16 * v + 5) by
              rw [k3, zsub k4]; exact (z_le (a := 0) rfl rfl (by decide) (by omega)).mpr (Nat.zero_le _))]
          · rw [if_neg k2]
        · rw [if_neg k1, if_neg k1]
    · have h2 : c' 112 (640 + 16 * v + 1) = 1 := by
        rcases a2 with a2 | a2
        · exact absurd (a1.trans a2) h1
        · exact a2
      obtain ⟨b1, b2, b3, b4, b7⟩ := a14 h2
      dsimp only at b7 b3 b4
      rw [if_neg h1, if_neg h1, e3, b3, b4, if_neg (z_pos (x := c' 112 (640 + 16 * v + 8)) (by omega) (by omega))]
      rfl
