theorem free_eq {ea C R : Nat → Nat → Int32} {m : Nat} (h : zVo 34 C ea (R 112) m) (K : Nat → Int32) : ∀ (n i : Nat), i + n = 4 → (∃ u, u < 4 ∧ g1_X1_lowestFree C 34 n i (fun _ => -1) = nI u ∧ g1_X7_voiceFor R n i K = nI u ∧ C (34 + 3 + 2 * u) 0 = 0) ∨ (g1_X1_lowestFree C 34 n i (fun _ => -1) = -1 ∧ g1_X7_voiceFor R n i K = K 4 ∧ ∀ u, i ≤ u → u < 4 → ¬ C (34 + 3 + 2 * u) 0 = 0) := by
  intro n
  induction n with
  | zero => intro i hi; right; rw [show i = 4 by omega]; exact ⟨rfl, rfl, fun u h1 h2 => by omega⟩
  | succ n ih =>
    intro i hi
    have V := h i (by omega)
    by_cases h0 : C (34 + 3 + 2 * i) 0 = 0
    · left
      exact ⟨i, by omega, by rw [g1_X1_lowestFree, if_pos h0], by rw [g1_X7_voiceFor, V.plays, if_pos h0], h0⟩
    · rw [g1_X1_lowestFree, g1_X7_voiceFor, V.plays, if_neg h0, if_neg h0]
      rcases ih (i + 1) (by omega) with h1 | ⟨h1, h2, h3⟩
      · exact Or.inl h1
      · right
        refine ⟨h1, h2, fun u hu1 hu2 => ?_⟩
        by_cases e : u = i
        · subst e; exact h0
        · exact h3 u (by omega) hu2
/-- who is stolen first: one number for each voice -/
def zky (R : Nat → Nat → Int32) (u : Nat) : Nat := if R 112 (640 + 16 * u + 1) = 0 then 2 ^ 40 + zn (R 112 (640 + 16 * u + 13)) else zn (R 112 (640 + 16 * u + 14))
def zFst (R : Nat → Nat → Int32) (x n : Nat) : Prop := (∀ u, u < x → zky R x < zky R u) ∧ ∀ u, x ≤ u → u < n → zky R x ≤ zky R u
theorem zFst.uniq {R : Nat → Nat → Int32} {x y : Nat} (hx : zFst R x 4) (hy : zFst R y 4) (h1 : x < 4) (h2 : y < 4) : x = y := by
  rcases Nat.lt_trichotomy x y with h | h | h
  · have a := hy.1 x h; have b := hx.2 y (by omega) h2; omega
  · exact h
  · have a := hx.1 y h; have b := hy.2 x (by omega) h1; omega
section
variable {ea C R : Nat → Nat → Int32} {m : Nat}
theorem zlt1 {a b : Int32} {m : Nat} (ha : zn a < m) (hb : zn b < m) (hm : m < 2 ^ 30) : (a + 1 ≤ b + 1) ↔ zn a ≤ zn b := by
  rw [zle1 ha hb hm, z_le (zn_eq a) (zn_eq b) (by omega) (by omega)]
theorem stolen_eq (h : zVo 34 C ea (R 112) m) (hm : m < 2 ^ 30) {i x : Nat} (hi : i < 4) (hx : x < 4) (pi : ¬ C (34 + 3 + 2 * i) 0 = 0) (px : ¬ C (34 + 3 + 2 * x) 0 = 0) : m_X5_isStolenBefore C ea 34 i x = 0 ↔ ¬ zky R i < zky R x := by
  obtain ⟨a1, a2, _, _, _, _, _, _, _, _, _, _, _, _, _, _, _, a11, a12, _, a14⟩ := (h i hi).2.2 ((h i hi).on pi).2
  obtain ⟨b1, b2, _, _, _, _, _, _, _, _, _, _, _, _, _, _, _, b11, b12, _, b14⟩ := (h x hx).2.2 ((h x hx).on px).2
  dsimp only at a1 a2 a11 a12 a14 b1 b2 b11 b12 b14
  unfold m_X5_isStolenBefore zky
  rw [a1, b1]
  rcases a2 with a2 | a2 <;> rcases b2 with b2 | b2
  · rw [a2, b2, if_pos rfl, if_pos rfl, if_pos rfl, if_pos rfl, a11, b11]
    by_cases q : R 112 (640 + 16 * x + 13) + 1 ≤ R 112 (640 + 16 * i + 13) + 1
    · rw [if_pos q]; have := (zlt1 b12 a12 hm).mp q; exact ⟨fun _ => by omega, fun _ => rfl⟩
    · rw [if_neg q]; have : ¬ _ := fun z => q ((zlt1 b12 a12 hm).mpr z); exact ⟨fun z => absurd z (by decide), fun z => absurd (by omega) z⟩
  · obtain ⟨d1, d2, _⟩ := b14 b2
    rw [a2, b2, if_neg (show ¬ (0 : Int32) = 1 by decide), if_pos rfl, if_neg (show ¬ (1 : Int32) = 0 by decide)]
    exact ⟨fun _ => by omega, fun _ => rfl⟩
  · obtain ⟨d1, d2, _⟩ := a14 a2
    rw [a2, b2, if_neg (show ¬ (1 : Int32) = 0 by decide), if_neg (show ¬ (1 : Int32) = 0 by decide), if_pos rfl]
    exact ⟨fun z => absurd z (by decide), fun z => absurd (by omega) z⟩
  · obtain ⟨d1, d2, _⟩ := a14 a2
    obtain ⟨f1, f2, _⟩ := b14 b2
    rw [a2, b2, if_pos rfl, if_neg (show ¬ (1 : Int32) = 0 by decide), if_neg (show ¬ (1 : Int32) = 0 by decide), if_neg (show ¬ (1 : Int32) = 0 by decide), d1, f1]
    by_cases q : R 112 (640 + 16 * x + 14) + 1 ≤ R 112 (640 + 16 * i + 14) + 1
    · rw [if_pos q]; have := (zlt1 f2 d2 hm).mp q; exact ⟨fun _ => by omega, fun _ => rfl⟩
    · rw [if_neg q]; have : ¬ _ := fun z => q ((zlt1 f2 d2 hm).mpr z); exact ⟨fun z => absurd z (by decide), fun z => absurd (by omega) z⟩
theorem zFst.next {i x : Nat} (h : zFst R x i) (hx : x < i) : (zky R i < zky R x → zFst R i (i + 1)) ∧ (¬ zky R i < zky R x → zFst R x (i + 1)) := by
  refine ⟨fun q => ⟨fun u hu => ?_, fun u h1 h2 => ?_⟩, fun q => ⟨h.1, fun u h1 h2 => ?_⟩⟩
  · by_cases e : u < x
    · have := h.1 u e; omega
    · have := h.2 u (by omega) hu; omega
  · rw [show u = i by omega]; exact Nat.le_refl _
  · by_cases e : u = i
    · subst e; omega
    · exact h.2 u h1 (by omega)
theorem steal_c (h : zVo 34 C ea (R 112) m) (hm : m < 2 ^ 30) (hp : ∀ u, u < 4 → ¬ C (34 + 3 + 2 * u) 0 = 0) : ∀ (n i x : Nat), i + n = 4 → x < i → zFst R x i → ∃ u, u < 4 ∧ g1_X1_mostStealable C ea 34 n i x (fun _ x => nI x) = nI u ∧ zFst R u 4 := by
  intro n
  induction n with
  | zero => intro i x hi hx hq; rw [show i = 4 by omega] at hq; exact ⟨x, by omega, rfl, hq⟩
  | succ n ih =>
    intro i x hi hx hq
    have e := stolen_eq h hm (i := i) (x := x) (by omega) (by omega) (hp i (by omega)) (hp x (by omega))
    rw [g1_X1_mostStealable]
    by_cases q : m_X5_isStolenBefore C ea 34 i x = 0
    · rw [if_pos q]; exact ih _ _ (by omega) (by omega) ((hq.next hx).2 (e.mp q))
    · rw [if_neg q]; exact ih _ _ (by omega) (by omega) ((hq.next hx).1 (Classical.not_not.mp (fun z => q (e.mpr z))))
theorem steal_r3 (h : zVo 34 C ea (R 112) m) (hm : m < 2 ^ 30) (hp : ∀ u, u < 4 → ¬ C (34 + 3 + 2 * u) 0 = 0) (hr : ∀ u, u < 4 → R 112 (640 + 16 * u + 1) = 0) : ∀ (n i x : Nat), i + n = 4 → x < i → zFst R x i → ∃ u, u < 4 ∧ g3_X7_voiceFor R n i x (fun _ x => nI x) = nI u ∧ zFst R u 4 := by
  intro n
  induction n with
  | zero => intro i x hi hx hq; rw [show i = 4 by omega] at hq; exact ⟨x, by omega, rfl, hq⟩
  | succ n ih =>
    intro i x hi hx hq
    have b12 := fun u hu => ((h u hu).2.2 ((h u hu).on (hp u hu)).2).2.2.2.2.2.2.2.2.2.2.2.2.2.2.2.2.2.2.1
    dsimp only at b12
    have e : m_X7_at R x 13 ≤ m_X7_at R i 13 ↔ ¬ zky R i < zky R x := by
      unfold m_X7_at zky
      rw [hr i (by omega), hr x (by omega), if_pos rfl, if_pos rfl, z_le (zn_eq _) (zn_eq _) (by have := b12 x (by omega); omega) (by have := b12 i (by omega); omega)]
      omega
    rw [g3_X7_voiceFor]
    by_cases q : m_X7_at R x 13 ≤ m_X7_at R i 13
    · rw [if_pos q]; exact ih _ _ (by omega) (by omega) ((hq.next hx).2 (e.mp q))
    · rw [if_neg q]; exact ih _ _ (by omega) (by omega) ((hq.next hx).1 (Classical.not_not.mp (fun z => q (e.mpr z))))
theorem steal_r2 (h : zVo 34 C ea (R 112) m) (hm : m < 2 ^ 30) (hp : ∀ u, u < 4 → ¬ C (34 + 3 + 2 * u) 0 = 0) : ∀ (n i : Nat) (x : Int32), i + n = 4 → ((x = -1 ∧ ∀ u, u < i → R 112 (640 + 16 * u + 1) = 0) ∨ ∃ a, a < i ∧ x = nI a ∧ ¬ R 112 (640 + 16 * a + 1) = 0 ∧ zFst R a i) → ∃ u, u < 4 ∧ g2_X7_voiceFor R n i x (fun _ x => if x < 0 then g3_X7_voiceFor R 3 1 0 (fun _ y => nI y) else x) = nI u ∧ zFst R u 4 := by
  intro n
  induction n with
  | zero =>
    intro i x hi hx
    rw [show i = 4 by omega] at hx
    rw [g2_X7_voiceFor]
    rcases hx with ⟨hx, hr⟩ | ⟨a, ha, hx, _, hq⟩
    · rw [if_pos (show x < 0 by rw [hx]; decide)]
      exact steal_r3 h hm hp hr 3 1 0 (by omega) (by omega) ⟨fun u hu => by omega, fun u h1 h2 => by rw [show u = 0 by omega]; exact Nat.le_refl _⟩
    · rw [if_neg (show ¬ x < 0 by rw [hx]; exact fun q => absurd ((z_lt (b := 0) rfl rfl (by omega) (by decide)).mp q) (Nat.not_lt_zero _))]
      exact ⟨a, ha, hx, hq⟩
  | succ n ih =>
    intro i x hi hx
    have V := h i (by omega)
    obtain ⟨a1, a2, _, _, _, _, _, _, _, _, _, _, _, _, _, _, _, a11, a12, _, a14⟩ := V.2.2 (V.on (hp i (by omega))).2
    dsimp only at a1 a2 a14
    rw [g2_X7_voiceFor, V.rel (hp i (by omega)), a1]
    by_cases hr : R 112 (640 + 16 * i + 1) = 0
    · rw [if_pos hr]
      refine ih _ _ (by omega) ?_
      rcases hx with ⟨hx, hx2⟩ | ⟨a, ha, hx, ha2, hq⟩
      · left
        refine ⟨hx, fun u hu => ?_⟩
        by_cases e : u = i
        · subst e; exact hr
        · exact hx2 u (by omega)
      · right
        refine ⟨a, by omega, hx, ha2, (hq.next ha).2 ?_⟩
        have W := h a (by omega)
        have w2 := (W.2.2 (W.on (hp a (by omega))).2).2.1
        have w14 := (W.2.2 (W.on (hp a (by omega))).2).2.2.2.2.2.2.2.2.2.2.2.2.2.2.2.2.2.2.2.2
        dsimp only at w2 w14
        have w1 : R 112 (640 + 16 * a + 1) = 1 := w2.resolve_left ha2
        obtain ⟨_, d2, _⟩ := w14 w1
        unfold zky
        rw [if_pos hr, if_neg ha2]
        omega
    · have r1 : R 112 (640 + 16 * i + 1) = 1 := a2.resolve_left hr
      obtain ⟨_, d2, _⟩ := a14 r1
      rw [if_neg hr]
      rcases hx with ⟨hx, hx2⟩ | ⟨a, ha, hx, ha2, hq⟩
      · rw [if_pos (show x < 0 by rw [hx]; decide)]
        refine ih _ _ (by omega) (Or.inr ⟨i, by omega, rfl, hr, ⟨fun u hu => ?_, fun u h1 h2 => by rw [show u = i by omega]; exact Nat.le_refl _⟩⟩)
        unfold zky
        rw [if_neg hr, if_pos (hx2 u hu)]
        omega
      · have W := h a (by omega)
        have w2 := (W.2.2 (W.on (hp a (by omega))).2).2.1
        have w14 := (W.2.2 (W.on (hp a (by omega))).2).2.2.2.2.2.2.2.2.2.2.2.2.2.2.2.2.2.2.2.2
        dsimp only at w2 w14
        have w1 : R 112 (640 + 16 * a + 1) = 1 := w2.resolve_left ha2
        obtain ⟨_, e2, _⟩ := w14 w1
        have hzx : zn x = a := by rw [hx, zn_nI (by omega)]
        rw [if_neg (show ¬ x < 0 by rw [hx]; exact fun q => absurd ((z_lt (b := 0) rfl rfl (by omega) (by decide)).mp q) (Nat.not_lt_zero _)), hzx]
        have e : m_X7_at R a 14 ≤ m_X7_at R i 14 ↔ ¬ zky R i < zky R a := by
          unfold m_X7_at zky
          rw [if_neg hr, if_neg ha2, z_le (zn_eq _) (zn_eq _) (by omega) (by omega)]
          omega
        by_cases q : m_X7_at R a 14 ≤ m_X7_at R i 14
        · rw [if_pos q]; exact ih _ _ (by omega) (Or.inr ⟨a, by omega, hx, ha2, (hq.next ha).2 (e.mp q)⟩)
        · rw [if_neg q]; exact ih _ _ (by omega) (Or.inr ⟨i, by omega, rfl, hr, (hq.next ha).1 (Classical.not_not.mp (fun z => q (e.mpr z)))⟩)
/-- the voice that a note gets -/
theorem voice_eq (h : zVo 34 C ea (R 112) m) (hm : m < 2 ^ 30) : ∃ u, u < 4 ∧ m_X7_voiceFor R = nI u ∧ ((m_X1_lowestFree C 34 = nI u ∧ C (34 + 3 + 2 * u) 0 = 0) ∨ (m_X1_lowestFree C 34 = -1 ∧ m_X1_mostStealable C ea 34 = nI u ∧ ¬ C (34 + 3 + 2 * u) 0 = 0)) := by
  unfold m_X7_voiceFor m_X1_lowestFree
  rcases free_eq h (fun i => g2_X7_voiceFor R 4 0 (-1) (fun j x => if x < 0 then (g3_X7_voiceFor R 3 1 0 (fun k y => nI y)) else x)) 4 0 (by omega) with ⟨u, hu, h1, h2, h3⟩ | ⟨h1, h2, h3⟩
  · exact ⟨u, hu, h2, Or.inl ⟨h1, h3⟩⟩
  · have hp : ∀ u, u < 4 → ¬ C (34 + 3 + 2 * u) 0 = 0 := fun u hu => h3 u (Nat.zero_le _) hu
    obtain ⟨u, hu, e1, e2⟩ := steal_r2 h hm hp 4 0 (-1) (by omega) (Or.inl ⟨rfl, fun u hu => absurd hu (Nat.not_lt_zero _)⟩)
    obtain ⟨u', hu', f1, f2⟩ := steal_c h hm hp 3 1 0 (by omega) (by omega) ⟨fun u hu => by omega, fun u h1 h2 => by rw [show u = 0 by omega]; exact Nat.le_refl _⟩
    have e := f2.uniq e2 hu' hu
    subst e
    exact ⟨u', hu, h2.trans e1, Or.inr ⟨h1, f1, hp u' hu⟩⟩
end
