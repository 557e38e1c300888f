/-! a row of samples on the class's side, block by block -/
section
variable {c C ea : Nat → Nat → Int32} {o z y r T m0 : Nat} {R : Nat → Nat → Int32}
theorem sd_ok (hl : ∀ k, k < zn (c 1 0) → c 2 k = 100 → 1 ≤ zn (c 4 k) ∧ zn (c 4 k) ≤ 60) : ∀ (n i a : Nat), i + n = zn (c 1 0) → 1 ≤ a → a ≤ 64 → ∃ b, g1_X0_shortestDelay c n i (nI a) (fun _ x => x) = nI b ∧ 1 ≤ b ∧ b ≤ a ∧ ∀ k, i ≤ k → k < zn (c 1 0) → c 2 k = 100 → b ≤ zn (c 4 k) := by
  intro n
  induction n with
  | zero => intro i a hi h1 h2; exact ⟨a, rfl, h1, Nat.le_refl _, fun k h3 h4 => by omega⟩
  | succ n ih =>
    intro i a hi h1 h2
    rw [g1_X0_shortestDelay]
    by_cases h : c 2 i = 100
    · rw [if_pos h]
      obtain ⟨l1, l2⟩ := hl i (by omega) h
      have e : zmin (nI a) (c 4 i) = nI (min a (zn (c 4 i))) := by
        unfold zmin
        by_cases q : zn (c 4 i) < a
        · rw [if_pos ((z_lt (zn_eq _) rfl (by omega) (by omega)).mpr q), show min a (zn (c 4 i)) = zn (c 4 i) by omega, ← zn_eq]
        · rw [if_neg (fun q2 => q ((z_lt (zn_eq _) rfl (by omega) (by omega)).mp q2)), show min a (zn (c 4 i)) = a by omega]
      rw [e]
      obtain ⟨b, b1, b2, b3, b4⟩ := ih (i + 1) (min a (zn (c 4 i))) (by omega) (by omega) (by omega)
      refine ⟨b, b1, b2, by omega, fun k h3 h4 h5 => ?_⟩
      by_cases e1 : k = i
      · subst e1; omega
      · exact b4 k (by omega) h4 h5
    · rw [if_neg h]
      obtain ⟨b, b1, b2, b3, b4⟩ := ih (i + 1) a (by omega) h1 h2
      refine ⟨b, b1, b2, b3, fun k h3 h4 h5 => ?_⟩
      by_cases e1 : k = i
      · subst e1; exact absurd h5 h
      · exact b4 k (by omega) h4 h5
theorem zsz_le (hl : ∀ k, k < zn (c 1 0) → c 2 k = 100 → 1 ≤ zn (c 4 k) ∧ zn (c 4 k) ≤ 60) (hy : y ≤ 64) {k : Nat} (hk : k < zn (c 1 0)) (h : c 2 k = 100) : zsz c y ≤ zn (c 4 k) := by
  obtain ⟨b, b1, b2, b3, b4⟩ := sd_ok hl (zn (c 1 0)) 0 64 (by omega) (by decide) (by decide)
  have e : m_X0_shortestDelay c = nI b := b1
  have hb := b4 k (Nat.zero_le _) hk h
  have h1 := (hl k hk h).1
  unfold zsz zmax zmin
  rw [e]
  by_cases q : nI b < nI y
  · rw [if_pos q]
    by_cases q2 : (1 : Int32) < nI b
    · rw [if_pos q2, zn_nI (by omega)]; exact hb
    · rw [if_neg q2]; exact h1
  · rw [if_neg q]
    have hyb : ¬ b < y := fun q2 => q ((z_lt rfl rfl (by omega) (by omega)).mpr q2)
    by_cases q2 : (1 : Int32) < nI y
    · rw [if_pos q2, zn_nI (by omega)]; omega
    · rw [if_neg q2]; exact h1
theorem zTr.cg {C' : Nat → Nat → Int32} {r : Nat → Int32} (h10 : zn (C 1 0) ≤ 10) (hc : ∀ x, x < o + 36 ∨ x = 114 → C' x = C x) (h : zTr o C r) : zTr o C' r :=
  h.congr h10 (by rw [hc 1 (by omega)]) (hc 114 (by omega)) (hc 4 (by omega)) (fun i hi => hc i (by omega)) (fun _ _ => rfl)
/-- what find leaves after i samples -/
def zFd (c C ea : Nat → Nat → Int32) (o r m0 : Nat) (R : Nat → Nat → Int32) (i : Nat) (D : Nat → Nat → Int32) : Prop := (∀ x, x < o + 3 ∨ o + 36 ≤ x → x ≠ r → D x = C x) ∧ (∀ q, q < i → D r q = R (q + 1) (630 + zn (c 1 1))) ∧ zTr o D (R i) ∧ zVo o D ea (R i) m0 ∧ zNu o (zn (c 1 0)) C D
theorem find_ok (ho : 34 ≤ o) (hr : o + 36 ≤ r) (hr2 : r < 114) (h1 : zI1 c) (h2 : zI2 c) (h3 : zI3 c) (h4 : zI4 c) (hg : zCg c C) (hg2 : C 114 = c 114) (hz : z ≤ 64) (hy : y ≤ 64) (hS : ∀ i, i < z → zSm c (R i) (R (i + 1))) (hL : ∀ i, i ≤ z → ∀ v, v < 4 → zn (R i (640 + 16 * v + 10)) ≤ T) (hT : T < 2 ^ 30) (hR : zTr o C (R 0)) (hV : zVo o C ea (R 0) m0) : zFd c C ea o r m0 R z (m_X4_find C ea o z y r) := by
  have h10 := h1.2.2.1
  have hl : ∀ k, k < zn (C 1 0) → C 2 k = 100 → 1 ≤ zn (C 4 k) ∧ zn (C 4 k) ≤ 60 := fun k hk hd => by
    rw [hg 1 (by decide)] at hk
    rw [hg 2 (by decide)] at hd
    rw [hg 4 (by decide)]
    have h9 := h2 k hk
    rcases h9.1 with ⟨a, b⟩ | ⟨a, b⟩ | ⟨a, b⟩ | ⟨a, b⟩ | ⟨a, b⟩
    · rw [a] at hd; exact absurd hd (by decide)
    · rw [a] at hd; exact absurd hd (by decide)
    · exact (h9.2.2.2.1 b).2.2
    · rw [a] at hd; exact absurd hd (by decide)
    · rw [a] at hd; exact absurd hd (by decide)
  obtain ⟨s1, s2⟩ := zsz_in C hy
  have sl : ∀ k, k < zn (c 1 0) → c 114 k = 2 → zsz C y ≤ zn (c 4 k) := fun k hk hd => by
    have x1 : c 2 k = 100 := by
      rcases (h2 k hk).1 with ⟨a, b⟩ | ⟨a, b⟩ | ⟨a, b⟩ | ⟨a, b⟩ | ⟨a, b⟩
      · rw [b] at hd; exact absurd hd (by decide)
      · rw [b] at hd; exact absurd hd (by decide)
      · exact a
      · rw [b] at hd; exact absurd hd (by decide)
      · rw [b] at hd; exact absurd hd (by decide)
    have := zsz_le (c := C) hl hy (k := k) (by rw [hg 1 (by decide)]; exact hk) (by rw [hg 2 (by decide)]; exact x1)
    rwa [hg 4 (by decide)] at this
  have g : ∀ (n i : Nat) (D : Nat → Nat → Int32), z ≤ i + n → i ≤ 128 → zFd c C ea o r m0 R (min i z) D → zFd c C ea o r m0 R z (g1_X4_find C ea o z y r n i D (fun _ c1 => c1)) := by
    intro n
    induction n with
    | zero => intro i D hi _ h; rw [show min i z = z by omega] at h; exact h
    | succ n ih =>
      intro i D hi h128 h
      rw [g1_X4_find]
      by_cases q : nI z ≤ nI i
      · rw [if_pos q]
        have := (z_le rfl rfl (by omega) (by omega)).mp q
        rw [show min i z = z by omega] at h; exact h
      · rw [if_neg q]
        have hiz : i < z := by
          rcases Nat.lt_or_ge i z with h9 | h9
          · exact h9
          · exact absurd ((z_le rfl rfl (by omega) (by omega)).mpr h9) q
        rw [show min i z = i by omega] at h
        obtain ⟨a1, a2, a3, a4, a5⟩ := h
        have gD : zCg c D := fun x hx => (a1 x (by omega) (by omega)).trans (hg x hx)
        have gD2 : D 114 = c 114 := (a1 114 (by omega) (by omega)).trans hg2
        obtain ⟨b1, b2, b3, b4, b5⟩ := block_ok (c := c) (C := D) (ea := ea) (o := o) (z := min (zsz C y) (z - i)) (T := T) (m0 := m0) (R := fun q => R (i + q)) ho (by omega) h1 h2 h3 h4 gD gD2 (fun q hq => hS (i + q) (by omega)) (fun q hq => hL (i + q) (by omega)) hT (by omega) (fun k hk hd => by have := sl k hk hd; omega) a3 a4
        generalize hs : min (zsz C y) (z - i) = s at b1 b2 b3 b4 b5
        generalize m_X4_findBlock D ea o s = B at b1 b2 b3 b4 b5
        have hout : zn (C 1 1) = zn (c 1 1) := by rw [hg 1 (by decide)]
        rw [hout]
        have rB : ∀ x, x ≠ r → va_up B r (va_cpy (B (o + 12 + zn (c 1 1))) (B r) 0 i s) x = B x := fun x hx => va_up_ne _ _ hx
        have rr : ∀ q, va_up B r (va_cpy (B (o + 12 + zn (c 1 1))) (B r) 0 i s) r q = if i ≤ q ∧ q < i + s then B (o + 12 + zn (c 1 1)) (q - i) else B r q := fun q => by
          rw [va_up_self]
          unfold va_cpy
          by_cases h9 : i ≤ q ∧ q < i + s
          · rw [if_pos h9, if_pos h9, Nat.zero_add]
          · rw [if_neg h9, if_neg h9]
        refine ih (i + zsz C y) _ (by omega) (by omega) ?_
        rw [show min (i + zsz C y) z = i + s by omega]
        refine ⟨fun x hx hxr => ?_, fun q hq => ?_, ?_, ?_, fun k hk => ?_⟩
        · rw [rB x hxr, b1 x hx]; exact a1 x hx hxr
        · rw [rr]
          by_cases h9 : i ≤ q
          · rw [if_pos ⟨h9, hq⟩, b2 _ h1.2.2.2.2 _ (by omega)]
            show R (i + (q - i + 1)) _ = _
            rw [show i + (q - i + 1) = q + 1 by omega]
          · rw [if_neg (by omega), b1 r (by omega)]; exact a2 q (by omega)
        · refine zTr.cg (C := B) (by rw [b1 1 (by omega), gD 1 (by decide)]; exact h10) (fun x hx => rB x (by omega)) b3
        · exact b4.congr (fun v hv => rB _ (by omega)) (fun _ _ => rfl) (fun _ _ _ => rfl)
        · obtain ⟨d1, d2, d3, d4⟩ := b5 k hk
          obtain ⟨e1, e2, e3, e4⟩ := a5 k hk
          refine ⟨?_, ?_, ?_, fun hk10 => ?_⟩
          · rw [rB _ (by omega), d1, e1]
          · rw [rB _ (by omega), d2, e2]
          · rw [rB _ (by omega), d3, e3]
          · rw [rB _ (by omega), d4 hk10, e4 hk10]
  unfold m_X4_find
  refine g z 0 C (by omega) (by omega) ?_
  rw [show min 0 z = 0 by omega]
  exact ⟨fun _ _ _ => rfl, fun q hq => by omega, hR, hV, fun _ _ => ⟨rfl, rfl, rfl, fun _ => rfl⟩⟩
end
