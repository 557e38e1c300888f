theorem rem_sh (c : Nat → Nat → Int32) (t u : Nat) (ht : t < 10) (K : Nat → (Nat → Nat → Int32) → Int32 × (Nat → Nat → Int32)) : ∀ (n i : Nat) (c1 : Nat → Nat → Int32), 1 ≤ i → ∃ C, g1_X0_removeWire c t u n i c1 K = K (i + n) C ∧ (∀ x q, ¬ (x = 12 + t ∨ x = 23 + t) → C x q = c1 x q) ∧ (∀ x q, x = 12 + t ∨ x = 23 + t → C x q = if i ≤ q + 1 ∧ q + 1 < i + n then c1 x (q + 1) else c1 x q) := by
  intro n
  induction n with
  | zero => intro i c1 h1; exact ⟨c1, rfl, fun _ _ _ => rfl, fun x q _ => by rw [if_neg (by omega)]⟩
  | succ n ih =>
    intro i c1 h1
    obtain ⟨C, e, a1, a2⟩ := ih (i + 1) (zup (zup c1 (12 + t) (i - 1) (c1 (12 + t) i)) (23 + t) (i - 1) (c1 (23 + t) i)) (by omega)
    refine ⟨C, by rw [g1_X0_removeWire, e, show i + 1 + n = i + (n + 1) by omega], fun x q hx => ?_, fun x q hx => ?_⟩
    · rw [a1 x q hx, zup_at, if_neg (by omega), zup_at, if_neg (by omega)]
    · rw [a2 x q hx]
      by_cases h2 : i + 1 ≤ q + 1 ∧ q + 1 < i + 1 + n
      · rw [if_pos h2, if_pos (by omega), zup_at, if_neg (by omega), zup_at, if_neg (by omega)]
      · rw [if_neg h2]
        by_cases h3 : q + 1 = i
        · rw [if_pos (by omega)]
          have e1 : i - 1 = q := by omega
          rw [e1, ← h3]
          rcases hx with hx | hx
          · rw [hx, zup_i _ _ _ (by omega), zup_s]
          · rw [hx, zup_s]
        · rw [if_neg (by omega), zup_at, if_neg (by omega), zup_at, if_neg (by omega)]
theorem dis_sh (c : Nat → Nat → Int32) (x y : Int32) (K : Nat → (Nat → Nat → Int32) → Int32 × (Nat → Nat → Int32)) : ∀ (n k : Nat) (c1 : Nat → Nat → Int32), ∃ C, g1_X7_disconnect c x y n k c1 K = K (k + n) C ∧ (∀ i q, ¬ (i = 118 ∨ i = 119) → C i q = c1 i q) ∧ (∀ i q, i = 118 ∨ i = 119 → C i q = if k ≤ q ∧ q < k + n then c1 i (q + 1) else c1 i q) := by
  intro n
  induction n with
  | zero => intro k c1; exact ⟨c1, rfl, fun _ _ _ => rfl, fun i q _ => by rw [if_neg (by omega)]⟩
  | succ n ih =>
    intro k c1
    obtain ⟨C, e, a1, a2⟩ := ih (k + 1) (zup (zup c1 118 k (c1 118 (k + 1))) 119 k (c1 119 (k + 1)))
    refine ⟨C, by rw [g1_X7_disconnect, e, show k + 1 + n = k + (n + 1) by omega], fun i q hi => ?_, fun i q hi => ?_⟩
    · rw [a1 i q hi, zup_at, if_neg (by omega), zup_at, if_neg (by omega)]
    · rw [a2 i q hi]
      by_cases h2 : k + 1 ≤ q ∧ q < k + 1 + n
      · rw [if_pos h2, if_pos (by omega), zup_at, if_neg (by omega), zup_at, if_neg (by omega)]
      · rw [if_neg h2]
        by_cases h3 : q = k
        · subst h3
          rw [if_pos (by omega)]
          rcases hi with hi | hi
          · rw [hi, zup_i _ _ _ (by decide), zup_s]
          · rw [hi, zup_s]
        · rw [if_neg (by omega), zup_at, if_neg (by omega), zup_at, if_neg (by omega)]
theorem pP_disconnect : zP_disconnect zInv := by
  intro j c w en ea x y hI hj hFw hgw hF7 hg7
  have hI' := hI
  obtain ⟨g0, g1, g2, g2b, g3, g4, g5, g8, g9, g10, g11, g12, g13⟩ := hI'
  have h10 := g1.2.2.1
  have tn : ¬ (1 : Int32) = 0 := by decide
  generalize hQ : ((m_X7_disconnect (w_L_disconnect c w x y).2.1 x y).2 111 12 = (w_L_disconnect c w x y).1 ∧ ((w_L_disconnect c w x y).1 = 0 → (w_L_disconnect c w x y).2.2 124 = ((m_X7_disconnect (w_L_disconnect c w x y).2.1 x y).1).toInt64) ∧ zInv (j + 1) (m_X7_disconnect (w_L_disconnect c w x y).2.1 x y).2 (w_L_disconnect c w x y).2.2 ea) = Q
  have bad : ∀ e : Int32, ¬ e = 0 → w_L_disconnect c w x y = (e, c, w) → m_X7_disconnect c x y = (0, zup c 111 12 e) → Q := by
    intro e he hW hR
    rw [← hQ]
    rw [hW] at hg7 ⊢; dsimp only at hg7 ⊢; rw [hR] at hg7 ⊢
    exact q_bad hI hg7 he
  have w1 : m_X6_disconnect c x y = .inl "java/lang/IndexOutOfBoundsException" → w_L_disconnect c w x y = (1, c, w) := fun hM => by unfold w_L_disconnect; rw [hM]; show (nI (lcd _ _), _) = _; rw [lcd_h]; rfl
  have w2 : m_X6_disconnect c x y = .inl "java/util/NoSuchElementException" → w_L_disconnect c w x y = (2, c, w) := fun hM => by unfold w_L_disconnect; rw [hM]; show (nI (lcd _ _), _) = _; rw [lcd_s (by decide), lcd_h]; rfl
  rcases rn_is g1 x with ⟨a1, a2, a3⟩ | ⟨a1, a2⟩
  · rcases rn_is g1 y with ⟨b1, b2, b3⟩ | ⟨b1, b2⟩
    · obtain ⟨t1, t4, t3⟩ := g3 (zn y) b3
      have hfw := fw_eq t1 (fun i hi => (t3 i hi).1) x
      have hM0 : m_X6_disconnect c x y = (if (m_X0_findWire c x (zn y)) = (-1) then (.inl "java/util/NoSuchElementException") else (.inr ((m_X0_removeWire c (zn y) (zn (m_X0_findWire c x (zn y)))).1, (m_X0_removeWire c (zn y) (zn (m_X0_findWire c x (zn y)))).2))) := by
        unfold m_X6_disconnect xb; rw [a1]; dsimp only; rw [b1]
      rcases wire_at (c := c) (t := zn y) (by rw [t1]; exact t4) x with ⟨q1, q2⟩ | ⟨i, q1, q2, q3, _⟩
      · have hwn : ¬ (0 : Int32) ≤ m_X7_wire c x (zn y) := by rw [q1]; decide
        exact bad 2 (by decide) (w2 (by rw [hM0, if_pos (hfw.trans q1)])) (by unfold m_X7_disconnect; rw [a2, if_neg tn, b2, if_neg tn, if_neg hwn])
      · rw [t1] at q1
        have hi4 : i < 4 := by omega
        have q6 : ¬ m_X7_wire c x (zn y) = -1 := by
          rw [q2]
          exact (by decide : ∀ i, i < 4 → ¬ nI i = -1) i hi4
        have q7 : (0 : Int32) ≤ m_X7_wire c x (zn y) := by
          rw [q2]
          exact (by decide : ∀ i, i < 4 → (0 : Int32) ≤ nI i) i hi4
        have zi : zn (nI i) = i := zn_nI (by omega)
        have hM : m_X6_disconnect c x y = .inr ((m_X0_removeWire c (zn y) i).1, (m_X0_removeWire c (zn y) i).2) := by
          rw [hM0, if_neg (fun h => q6 (hfw.symm.trans h)), hfw, q2, zi]
        have hW : w_L_disconnect c w x y = (0, (m_X0_removeWire c (zn y) i).2, va_up w 124 ((m_X0_removeWire c (zn y) i).1).toInt64) := by unfold w_L_disconnect; rw [hM]
        rw [← hQ]
        rw [hW] at hg7 hgw ⊢; dsimp only at hg7 hgw ⊢
        obtain ⟨C1, e1, m1, m2⟩ := rem_sh c (zn y) i (by omega) (fun _ c1 => (c (23 + zn y) i, (m_X0_arrange (zup c1 10 (zn y) ((c 10 (zn y)) - 1))))) (zn (c 10 (zn y)) - (i + 1)) (i + 1) c (by omega)
        have hrm : m_X0_removeWire c (zn y) i = (c (23 + zn y) i, m_X0_arrange (zup C1 10 (zn y) (c 10 (zn y) - 1))) := by unfold m_X0_removeWire; exact e1
        rw [hrm] at hg7 hgw ⊢; dsimp only at hg7 hgw ⊢
        generalize hC0 : zup C1 10 (zn y) (c 10 (zn y) - 1) = C0 at hg7 hgw ⊢
        have ns : c 10 (zn y) - 1 = nI (zn (c 10 (zn y)) - 1) := zn_pred (by omega)
        have hC : ∀ i k, i ≠ 10 → ¬ (12 ≤ i ∧ i ≤ 32) → C0 i k = c i k := fun i k h1 h2 => by
          rw [← hC0, zup_at, if_neg (by omega), m1 i k (by omega)]
        have hA : ∀ i, i ≠ 10 → ¬ (12 ≤ i ∧ i ≤ 33) → m_X0_arrange C0 i = c i := fun i h1 h2 => by
          rw [arr_o _ (by omega)]
          exact funext fun k => hC i k h1 (by omega)
        have n1 : ∀ v, m_X7_isNode (m_X0_arrange C0) v = m_X7_isNode c v := fun v => by unfold m_X7_isNode; rw [hA 111 (by decide) (by decide)]
        have n2 : m_X7_wire (m_X0_arrange C0) x (zn y) = m_X7_wire c x (zn y) := wire_congr (hA 118 (by decide) (by decide)) (hA 120 (by decide) (by decide)) x _
        have A120 := hA 120 (by decide) (by decide)
        have A119 := hA 119 (by decide) (by decide)
        obtain ⟨D0, e2, p1, p2⟩ := dis_sh (m_X0_arrange C0) x y (fun _ c1 => (m_X0_arrange C0 119 (4 * zn y + i), (m_X7_lays c1))) (zn (c 10 (zn y)) - 1 - i) (4 * zn y + i) (zup (zup (m_X0_arrange C0) 111 12 0) 120 (zn y) (nI (zn (c 10 (zn y)) - 1)))
        have hR : m_X7_disconnect (m_X0_arrange C0) x y = (c 119 (4 * zn y + i), m_X7_lays D0) := by
          unfold m_X7_disconnect
          rw [n1, n1, n2, A120, a2, if_neg tn, b2, if_neg tn, if_pos q7, q2, zi, t1, e2]
          rw [A119]
        rw [hR] at hg7 ⊢; dsimp only at hg7 ⊢
        have hD : ∀ i k, i ≠ 123 → ¬ (118 ≤ i ∧ i ≤ 120) → ¬ (i = 111 ∧ k = 12) → D0 i k = m_X0_arrange C0 i k := fun i k h1 h2 h3 => by
          rw [p1 i k (by omega), zup_at, if_neg (by omega), zup_at, if_neg h3]
        have dsh : ∀ r q, r = 118 ∨ r = 119 → D0 r q = if 4 * zn y + i ≤ q ∧ q < 4 * zn y + i + (zn (c 10 (zn y)) - 1 - i) then c r (q + 1) else c r q := fun r q hr => by
          rw [p2 r q hr, zup_i _ _ _ (by omega), zup_i _ _ _ (by omega), hA r (by omega) (by omega)]
        have d120 : ∀ q, q ≠ zn y → D0 120 q = c 120 q := fun q hq => by
          rw [p1 120 q (by decide), zup_k _ _ hq, zup_i _ _ _ (by decide), A120]
        have d120y : D0 120 (zn y) = nI (zn (c 10 (zn y)) - 1) := by
          rw [p1 120 _ (by decide), zup_s]
        have d114 : D0 114 = c 114 := funext fun k => by rw [hD 114 k (by omega) (by omega) (by omega), hA 114 (by decide) (by decide)]
        have c10 : ∀ q, q ≠ zn y → C0 10 q = c 10 q := fun q hq => by rw [← hC0, zup_k _ _ hq, m1 10 q (by omega)]
        have c10y : C0 10 (zn y) = nI (zn (c 10 (zn y)) - 1) := by rw [← hC0, zup_s, ns]
        have c12o : ∀ r k, 12 ≤ r → r ≤ 32 → ¬ (r = 12 + zn y ∨ r = 23 + zn y) → C0 r k = c r k := fun r k h1 h2 h3 => by
          rw [← hC0, zup_i _ _ _ (by omega), m1 r k h3]
        have c12y : ∀ r q, r = 12 + zn y ∨ r = 23 + zn y → C0 r q = if i ≤ q ∧ q + 1 < zn (c 10 (zn y)) then c r (q + 1) else c r q := fun r q h3 => by
          rw [← hC0, zup_i _ _ _ (by omega), m2 r q h3]
          by_cases h9 : i ≤ q ∧ q + 1 < zn (c 10 (zn y))
          · rw [if_pos h9, if_pos (by omega)]
          · rw [if_neg h9, if_neg (by omega)]
        have h4 : ∀ k, zn (c 120 k) ≤ 4 := fun k => g0 120 k
        have hAc : zAc D0 (zn (c 1 0)) := dis_shift (y := zn y) (a := i) (n := zn (c 1 0)) (c := c) g5 b3 d114 (by rw [t1]; exact q1) (by rw [d120y, t1]) d120 (fun q hq => by rw [t1] at hq; rw [dsh 118 q (Or.inl rfl), if_neg (by omega)]) (fun q h1 h2 => by rw [t1] at h2; rw [dsh 118 q (Or.inl rfl), if_pos (by omega)]) h4
        have hfin := wire_fin (w' := va_up w 124 (c (23 + zn y) i).toInt64) hI rfl hC hD (fun k hk => ?_) (fun k hk => ?_) hAc (by rw [p1 111 12 (by decide), zup_i _ _ _ (by decide), zup_s]) hg7 ⟨by simp [va_up], by simp [va_up]⟩
        · exact ⟨hfin.1, fun _ => by rw [(t3 i q1).2.1]; simp [va_up], hfin.2⟩
        · by_cases e : k = zn y
          · subst e
            rw [d120y, c10y, zn_nI (by omega)]
            refine ⟨rfl, by omega, fun q hq => ?_⟩
            rw [dsh 118 _ (Or.inl rfl), dsh 119 _ (Or.inr rfl), c12y (12 + zn y) q (Or.inl rfl), c12y (23 + zn y) q (Or.inr rfl)]
            by_cases h9 : i ≤ q
            · rw [if_pos (show 4 * zn y + i ≤ 4 * zn y + q ∧ 4 * zn y + q < 4 * zn y + i + (zn (c 10 (zn y)) - 1 - i) by omega), if_pos (show 4 * zn y + i ≤ 4 * zn y + q ∧ 4 * zn y + q < 4 * zn y + i + (zn (c 10 (zn y)) - 1 - i) by omega), if_pos (by omega), if_pos (by omega)]
              exact t3 (q + 1) (by omega)
            · rw [if_neg (by omega), if_neg (by omega), if_neg (by omega), if_neg (by omega)]
              exact t3 q (by omega)
          · obtain ⟨s1, s4, s3⟩ := g3 k hk
            rw [d120 k e, c10 k e]
            refine ⟨s1, s4, fun q hq => ?_⟩
            rw [dsh 118 _ (Or.inl rfl), dsh 119 _ (Or.inr rfl), if_neg (by omega), if_neg (by omega), c12o _ _ (by omega) (by omega) (by omega), c12o _ _ (by omega) (by omega) (by omega)]
            exact s3 q hq
        · rw [d120 k (by omega), c10 k (by omega)]
          exact ⟨(g2b k hk).2.1, (g2b k hk).2.2⟩
    · exact bad 1 (by decide) (w1 (by unfold m_X6_disconnect xb; rw [a1]; dsimp only; rw [b1])) (by unfold m_X7_disconnect; rw [a2, if_neg tn, b2, if_pos rfl])
  · exact bad 1 (by decide) (w1 (by unfold m_X6_disconnect xb; rw [a1])) (by unfold m_X7_disconnect; rw [a2, if_pos rfl])
