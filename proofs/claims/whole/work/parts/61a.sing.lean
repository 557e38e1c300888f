/-! a voice's sample on both sides -/
def sph (p : Nat → Int32) : Int32 := (p 9 + r_X7_stepOf (p 2)) - (p 9 + r_X7_stepOf (p 2)) / 65536 * 65536
def sgc (p : Nat → Int32) (q : Nat) : Int32 := if p 0 = 1 then (if q = 9 then sph p else if p 1 = 1 then (if q = 12 then p 12 + 1 else if q = 0 then (if p 12 + 1 = p 8 then 0 else p 0) else p q) else (if q = 10 then p 10 + 1 else p q)) else p q
def slv (p : Nat → Int32) : Int32 := m_X7_levelAt (fun _ q => p (q - 640)) 0
def sgv (p : Nat → Int32) : Int32 := if p 0 = 1 then (((r_X7_valueOf (p 4) (p 9)) * slv p) / 1000 * p 3) / 100 else 0
theorem lev_cg {c c' : Nat → Nat → Int32} {v v' : Nat} (h : ∀ q, q < 16 → m_X7_at c v q = m_X7_at c' v' q) : m_X7_levelAt c v = m_X7_levelAt c' v' := by
  unfold m_X7_levelAt m_X7_isReleased m_X7_plays
  rw [h 0 (by decide), h 1 (by decide), h 5 (by decide), h 6 (by decide), h 7 (by decide), h 8 (by decide), h 10 (by decide), h 11 (by decide), h 12 (by decide)]
theorem slv_of (c : Nat → Nat → Int32) (v : Nat) : m_X7_levelAt c v = slv (fun q => c 112 (640 + 16 * v + q)) := by
  unfold slv
  refine lev_cg (fun q hq => ?_)
  show c 112 (640 + 16 * v + q) = c 112 (640 + 16 * v + (640 + 16 * 0 + q - 640))
  rw [show 640 + 16 * 0 + q - 640 = q by omega]
section
variable {c : Nat → Nat → Int32} {v : Nat}
theorem sings_1 : (m_X7_sings c v).1 = sgv (fun q => c 112 (640 + 16 * v + q)) := by
  unfold m_X7_sings sgv m_X7_plays
  rw [← slv_of]
  by_cases h : m_X7_at c v 0 = 1
  · rw [if_pos h, if_neg (show ¬ (1 : Int32) = 0 by decide), if_pos (show c 112 (640 + 16 * v + 0) = 1 from h)]
    split
    · rfl
    · split <;> rfl
  · rw [if_neg h, if_pos rfl, if_neg (show ¬ c 112 (640 + 16 * v + 0) = 1 from h)]
theorem sings_c {q : Nat} (hq : q < 16) : (m_X7_sings c v).2 112 (640 + 16 * v + q) = sgc (fun q => c 112 (640 + 16 * v + q)) q := by
  unfold m_X7_sings sgc m_X7_plays
  dsimp only
  by_cases h : m_X7_at c v 0 = 1
  · rw [if_pos h, if_neg (show ¬ (1 : Int32) = 0 by decide), if_pos (show c 112 (640 + 16 * v + 0) = 1 from h)]
    have eph : m_X7_at c v 9 + r_X7_stepOf (m_X7_at c v 2) - (m_X7_at c v 9 + r_X7_stepOf (m_X7_at c v 2)) / 65536 * 65536 = sph (fun q => c 112 (640 + 16 * v + q)) := rfl
    rw [eph]
    generalize sph (fun q => c 112 (640 + 16 * v + q)) = ph
    have L : ∀ (C : Nat → Nat → Int32) (k q : Nat) (x : Int32), k < 16 → q < 16 → m_X7_lay C v k x 112 (640 + 16 * v + q) = if q = k then x else C 112 (640 + 16 * v + q) := fun C k q x h1 h2 => by
      by_cases e : q = k
      · subst e; rw [if_pos rfl, zlay_s]
      · rw [if_neg e, zlay_e _ h1 h2 (Or.inr e)]
    have A : ∀ (C : Nat → Nat → Int32) (k q : Nat) (x : Int32), k < 16 → q < 16 → m_X7_at (m_X7_lay C v k x) v q = if q = k then x else m_X7_at C v q := fun C k q x h1 h2 => L C k q x h1 h2
    unfold m_X7_isReleased m_X7_plays
    rw [A c 9 0 ph (by decide) (by decide), if_neg (show ¬ (0 : Nat) = 9 by decide), if_pos h, if_neg (show ¬ (1 : Int32) = 0 by decide), A c 9 1 ph (by decide) (by decide), if_neg (show ¬ (1 : Nat) = 9 by decide), A c 9 10 ph (by decide) (by decide), if_neg (show ¬ (10 : Nat) = 9 by decide), A c 9 12 ph (by decide) (by decide), if_neg (show ¬ (12 : Nat) = 9 by decide), A _ 12 12 _ (by decide) (by decide), if_pos rfl, A _ 12 8 _ (by decide) (by decide), if_neg (show ¬ (8 : Nat) = 12 by decide), A c 9 8 ph (by decide) (by decide), if_neg (show ¬ (8 : Nat) = 9 by decide)]
    by_cases h1 : m_X7_at c v 1 = 1
    · rw [if_pos h1, if_neg (show ¬ (1 : Int32) = 0 by decide), if_pos (show c 112 (640 + 16 * v + 1) = 1 from h1)]
      by_cases h2 : m_X7_at c v 12 + 1 = m_X7_at c v 8
      · rw [if_pos h2, if_pos (show c 112 (640 + 16 * v + 12) + 1 = c 112 (640 + 16 * v + 8) from h2)]
        dsimp only
        rw [L _ 0 q 0 (by decide) hq, L _ 12 q _ (by decide) hq, L _ 9 q _ (by decide) hq]
        by_cases e9 : q = 9
        · subst e9; rw [if_neg (by decide), if_neg (by decide), if_pos rfl, if_pos rfl]
        · rw [if_neg e9, if_neg e9]
          by_cases e12 : q = 12
          · subst e12; rw [if_neg (by decide), if_pos rfl, if_pos rfl]; rfl
          · rw [if_neg e12, if_neg e12]
      · rw [if_neg h2, if_neg (show ¬ c 112 (640 + 16 * v + 12) + 1 = c 112 (640 + 16 * v + 8) from h2)]
        dsimp only
        rw [L _ 12 q _ (by decide) hq, L _ 9 q _ (by decide) hq]
        by_cases e9 : q = 9
        · subst e9; rw [if_neg (by decide), if_pos rfl, if_pos rfl]
        · rw [if_neg e9, if_neg e9]
          by_cases e12 : q = 12
          · subst e12; rw [if_pos rfl, if_pos rfl]; rfl
          · rw [if_neg e12, if_neg e12]
            by_cases e0 : q = 0
            · subst e0; rw [if_pos rfl]
            · rw [if_neg e0]
    · rw [if_neg h1, if_pos rfl, if_neg (show ¬ c 112 (640 + 16 * v + 1) = 1 from h1)]
      dsimp only
      rw [L _ 10 q _ (by decide) hq, L _ 9 q _ (by decide) hq]
      by_cases e9 : q = 9
      · subst e9; rw [if_neg (by decide), if_pos rfl, if_pos rfl]
      · rw [if_neg e9, if_neg e9]
        by_cases e10 : q = 10
        · subst e10; rw [if_pos rfl, if_pos rfl]; rfl
        · rw [if_neg e10, if_neg e10]
  · rw [if_neg h, if_pos rfl, if_neg (show ¬ c 112 (640 + 16 * v + 0) = 1 from h)]
theorem sings_o {i q : Nat} (hq : ¬ (i = 112 ∧ 640 + 16 * v ≤ q ∧ q < 640 + 16 * v + 16)) : (m_X7_sings c v).2 i q = c i q := by
  have L : ∀ (C : Nat → Nat → Int32) (k : Nat) (x : Int32), k < 16 → m_X7_lay C v k x i q = C i q := fun C k x h => by
    unfold m_X7_lay
    rw [zup_at, if_neg (by omega)]
  unfold m_X7_sings
  split
  · rfl
  · split
    · show m_X7_lay (m_X7_lay c v 9 _) v 10 _ i q = _
      rw [L _ _ _ (by decide), L _ _ _ (by decide)]
    · split
      · show m_X7_lay (m_X7_lay (m_X7_lay c v 9 _) v 12 _) v 0 0 i q = _
        rw [L _ _ _ (by decide), L _ _ _ (by decide), L _ _ _ (by decide)]
      · show m_X7_lay (m_X7_lay c v 9 _) v 12 _ i q = _
        rw [L _ _ _ (by decide), L _ _ _ (by decide)]
end
theorem sgc_off {p : Nat → Int32} (h : ¬ p 0 = 1) : sgc p = p := funext fun q => if_neg h
theorem sgv_off {p : Nat → Int32} (h : ¬ p 0 = 1) : sgv p = 0 := if_neg h
theorem stepOf_lt {x : Int32} (h : zn x < 60) : zn (r_X7_stepOf x) < 65536 := by
  rw [zn_eq x]
  exact (by decide +kernel : ∀ i, i < 60 → zn (r_X7_stepOf (nI i)) < 65536) _ h
theorem zand16 {x : Int32} : zn (x &&& 65535) = zn x % 65536 := by
  show (x &&& 65535).toUInt32.toNat = x.toUInt32.toNat % 65536
  have e : (x &&& 65535).toUInt32 = x.toUInt32 &&& 65535 := rfl
  rw [e, UInt32.toNat_and]
  exact Nat.and_two_pow_sub_one_eq_mod _ 16
theorem ph_eq {a b : Int32} (ha : zn a < 65536) (hb : zn b < 65536) : (a + b) &&& 65535 = (a + b) - (a + b) / 65536 * 65536 ∧ zn ((a + b) - (a + b) / 65536 * 65536) < 65536 := by
  have e : a + b = nI (zn a + zn b) := by rw [← nI_add, ← zn_eq, ← zn_eq]
  have e2 : zn (a + b) = zn a + zn b := by rw [e, zn_nI (by omega)]
  have e3 := zrem2 (x := a + b) (y := 65536) (d := 65536) (by omega) rfl (by decide) (by decide)
  rw [e3]
  have e4 : zn (nI (zn (a + b) % 65536)) = zn (a + b) % 65536 := zn_nI (by omega)
  exact ⟨zn_inj (by rw [zand16, e4]), by rw [e4]; omega⟩
section
variable {c ea : Nat → Nat → Int32} {o v T m : Nat} {p : Nat → Int32}
theorem wave_eq (h4 : c (o + 3 + 2 * v) 4 = p 4) (k : p 4 = 115 ∨ p 4 = 113 ∨ p 4 = 116) (h7 : c (o + 3 + 2 * v) 7 = p 9) : m_X5_waveValue c ea o v = r_X7_valueOf (p 4) (p 9) := by
  unfold m_X5_waveValue r_X7_valueOf
  rw [h4, h7]
  rcases k with k | k | k
  · rw [k, if_neg (by decide), if_neg (by decide), if_pos rfl]
  · rw [k, if_pos rfl, if_neg (show ¬ (113 : Int32) = 115 by decide), if_pos rfl]
  · rw [k, if_neg (show ¬ (116 : Int32) = 113 by decide), if_pos rfl, if_neg (show ¬ (116 : Int32) = 115 by decide), if_neg (show ¬ (116 : Int32) = 113 by decide)]
theorem zVp.val (h : zVp (c (o + 3 + 2 * v)) (ea (o + 3 + 2 * v)) p m) (h0 : ¬ c (o + 3 + 2 * v) 0 = 0) (hT : zn (p 10) ≤ T) (hT2 : T < 2 ^ 30) : r_X6_partOf (((m_X5_waveValue c ea o v) * (m_X5_level c ea o v)) / 1000) (c (o + 3 + 2 * v) 3) = sgv p := by
  have hp : p 0 = 1 := by
    rcases h.2.1 with q | q
    · exact absurd (h.1.trans q) h0
    · exact q
  obtain ⟨a1, a2, a3, a4, a5, a6, a7, e0, e1, e2, e3, b5, b6, b8, a8, a9, a10, a11, a12, a13, a14⟩ := h.2.2 hp
  have hl : m_X5_level c ea o v = slv p := by
    have h' : zVp (c (o + 3 + 2 * v)) (ea (o + 3 + 2 * v)) (fun q => (fun (_ : Nat) (q : Nat) => p (q - (640 + 16 * v))) 112 (640 + 16 * v + q)) m := h.congr (fun q _ => by
      show p (640 + 16 * v + q - (640 + 16 * v)) = p q
      rw [Nat.add_sub_cancel_left])
    have h9 := level_eq (o := o) (v := v) (c := c) (ea := ea) (c' := fun (_ : Nat) (q : Nat) => p (q - (640 + 16 * v))) (m := m) (T := T) h' (by show zn (p (640 + 16 * v + 10 - (640 + 16 * v))) ≤ T; rw [Nat.add_sub_cancel_left]; exact hT) hT2
    rw [h9, slv_of]
    congr 1
    exact funext fun q => by
      show p (640 + 16 * v + q - (640 + 16 * v)) = p q
      rw [Nat.add_sub_cancel_left]
  unfold r_X6_partOf sgv
  rw [if_pos hp, wave_eq (ea := ea) a6 a7 a9, hl, a5]
theorem zVp.move (h : zVp (c (o + 3 + 2 * v)) (ea (o + 3 + 2 * v)) p m) (h0 : ¬ c (o + 3 + 2 * v) 0 = 0) : zVp (m_X5_moveOn c ea o v (o + 3 + 2 * v)) (ea (o + 3 + 2 * v)) (sgc p) m := by
  have hp : p 0 = 1 := by
    rcases h.2.1 with q | q
    · exact absurd (h.1.trans q) h0
    · exact q
  have hs : c (o + 3 + 2 * v) 0 = 1 := h.1.trans hp
  obtain ⟨a1, a2, a3, a4, a5, a6, a7, e0, e1, e2, e3, b5, b6, b8, a8, a9, a10, a11, a12, a13, a14⟩ := h.2.2 hp
  have hph := ph_eq a10 (stepOf_lt a4)
  have g : ∀ q, sgc p q = if q = 9 then sph p else if p 1 = 1 then (if q = 12 then p 12 + 1 else if q = 0 then (if p 12 + 1 = p 8 then 0 else p 0) else p q) else (if q = 10 then p 10 + 1 else p q) := fun q => if_pos hp
  have ph1 : (c (o + 3 + 2 * v) 7 + c (o + 3 + 2 * v) 6) &&& 65535 = sph p := by rw [a9, a8]; exact hph.1
  have ph2 : zn (sph p) < 65536 := hph.2
  unfold m_X5_moveOn
  rw [ph1]
  by_cases h1 : p 1 = 1
  · have c1 : ¬ c (o + 3 + 2 * v) 1 = 0 := by rw [a1, h1]; decide
    obtain ⟨d1, d2, d3, d4, d5⟩ := a14 h1
    rw [if_neg c1, e3, d4]
    have gg : ∀ q, q ≠ 9 → q ≠ 12 → q ≠ 0 → sgc p q = p q := fun q h9 h12 h00 => by rw [g, if_neg h9, if_pos h1, if_neg h12, if_neg h00]
    have g9 : sgc p 9 = sph p := by rw [g, if_pos rfl]
    have g12 : sgc p 12 = p 12 + 1 := by rw [g, if_neg (by decide), if_pos h1, if_pos rfl]
    have g0 : sgc p 0 = if p 12 + 1 = p 8 then 0 else p 0 := by rw [g, if_neg (by decide), if_pos h1, if_neg (by decide), if_pos rfl]
    have n12 : zn (p 12 + 1) = zn (p 12) + 1 := zn_add (N := 200) (by omega) (by decide)
    by_cases h2 : p 12 + 1 = p 8
    · rw [if_pos (show p 8 ≤ p 12 + 1 by rw [h2]; exact Int32.le_refl _)]
      rw [if_pos h2] at g0
      refine ⟨by rw [zup_s, g0], Or.inl g0, fun q => ?_⟩
      rw [g0] at q; exact absurd q (by decide)
    · rw [if_neg (fun z => h2 (zn_inj (by have := (z_le (zn_eq _) (zn_eq _) (by omega) (by omega)).mp z; omega)))]
      rw [if_neg h2] at g0
      have r : ∀ q, q ≠ 7 → q ≠ 12 → q ≠ 0 → zup (zup (zup c (o + 3 + 2 * v) 7 (sph p)) (o + 3 + 2 * v) 12 (p 12 + 1)) (o + 3 + 2 * v) 0 1 (o + 3 + 2 * v) q = c (o + 3 + 2 * v) q := fun q h7 h12 h00 => by
        rw [zup_k _ _ h00, zup_k _ _ h12, zup_k _ _ h7]
      have n8 : zn (p 12) + 1 < zn (p 8) := by
        rcases Nat.lt_or_ge (zn (p 12) + 1) (zn (p 8)) with z | z
        · exact z
        · exact absurd (zn_inj (by omega)) h2
      refine ⟨by rw [zup_s, g0, hp], Or.inr (g0.trans hp), fun _ => ?_⟩
      rw [gg 1 (by decide) (by decide) (by decide), gg 2 (by decide) (by decide) (by decide), gg 3 (by decide) (by decide) (by decide), gg 4 (by decide) (by decide) (by decide), gg 5 (by decide) (by decide) (by decide), gg 6 (by decide) (by decide) (by decide), gg 7 (by decide) (by decide) (by decide), gg 8 (by decide) (by decide) (by decide), gg 10 (by decide) (by decide) (by decide), gg 11 (by decide) (by decide) (by decide), gg 13 (by decide) (by decide) (by decide), gg 14 (by decide) (by decide) (by decide), g9, g12, r 1 (by decide) (by decide) (by decide), r 2 (by decide) (by decide) (by decide), r 3 (by decide) (by decide) (by decide), r 4 (by decide) (by decide) (by decide), r 6 (by decide) (by decide) (by decide), r 8 (by decide) (by decide) (by decide), r 9 (by decide) (by decide) (by decide), r 10 (by decide) (by decide) (by decide), r 11 (by decide) (by decide) (by decide)]
      exact ⟨a1, a2, a3, a4, a5, a6, a7, e0, e1, e2, e3, b5, b6, b8, a8, by rw [zup_k _ _ (by decide), zup_k _ _ (by decide), zup_s], ph2, a11, a12, a13, fun _ => ⟨d1, d2, d3, by rw [zup_k _ _ (by decide), zup_s], by omega⟩⟩
  · have p1 : p 1 = 0 := a2.resolve_right h1
    rw [if_pos (a1.trans p1)]
    have gg : ∀ q, q ≠ 9 → q ≠ 10 → sgc p q = p q := fun q h9 h10 => by rw [g, if_neg h9, if_neg h1, if_neg h10]
    have g9 : sgc p 9 = sph p := by rw [g, if_pos rfl]
    have g10 : sgc p 10 = p 10 + 1 := by rw [g, if_neg (by decide), if_neg h1, if_pos rfl]
    have r : ∀ q, q ≠ 7 → q ≠ 10 → zup (zup c (o + 3 + 2 * v) 7 (sph p)) (o + 3 + 2 * v) 10 (c (o + 3 + 2 * v) 10 + 1) (o + 3 + 2 * v) q = c (o + 3 + 2 * v) q := fun q h7 h10 => by
      rw [zup_k _ _ h10, zup_k _ _ h7]
    refine ⟨by rw [r 0 (by decide) (by decide), gg 0 (by decide) (by decide)]; exact h.1, Or.inr ((gg 0 (by decide) (by decide)).trans hp), fun _ => ?_⟩
    rw [gg 1 (by decide) (by decide), gg 2 (by decide) (by decide), gg 3 (by decide) (by decide), gg 4 (by decide) (by decide), gg 5 (by decide) (by decide), gg 6 (by decide) (by decide), gg 7 (by decide) (by decide), gg 8 (by decide) (by decide), gg 11 (by decide) (by decide), gg 12 (by decide) (by decide), gg 13 (by decide) (by decide), gg 14 (by decide) (by decide), g9, g10, r 1 (by decide) (by decide), r 2 (by decide) (by decide), r 3 (by decide) (by decide), r 4 (by decide) (by decide), r 6 (by decide) (by decide), r 8 (by decide) (by decide)]
    exact ⟨a1, a2, a3, a4, a5, a6, a7, e0, e1, e2, e3, b5, b6, b8, a8, by rw [zup_k _ _ (by decide), zup_s], ph2, a11, a12, by rw [zup_s, a13], fun q => absurd q h1⟩
theorem moveOn_o {i q : Nat} (h : i ≠ o + 3 + 2 * v) : m_X5_moveOn c ea o v i q = c i q := by
  unfold m_X5_moveOn
  split
  · rw [zup_i _ _ _ h, zup_i _ _ _ h]
  · split
    · rw [zup_i _ _ _ h, zup_i _ _ _ h, zup_i _ _ _ h]
    · rw [zup_i _ _ _ h, zup_i _ _ _ h, zup_i _ _ _ h]
end
