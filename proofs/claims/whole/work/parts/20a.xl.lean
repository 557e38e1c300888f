theorem xb_cases {α β : Type} {m : String ⊕ α} {f : α → String ⊕ β} {X : String} (h : xb m f = .inl X) : m = .inl X ∨ ∃ u, m = .inr u ∧ f u = .inl X := by
  unfold xb at h
  split at h
  · cases h; exact Or.inl rfl
  · exact Or.inr ⟨_, rfl, h⟩
theorem xl_refuseOutside {x y z : Int32} {X : String} (h : m_X6_refuseOutside x y z = .inl X) : X = "java/lang/IllegalArgumentException" := by
  unfold m_X6_refuseOutside at h
  by_cases q1 : x < y
  · rw [if_pos q1] at h
    cases h
    exact rfl
  · rw [if_neg q1] at h
    by_cases q2 : x ≤ z
    · rw [if_pos q2] at h
      cases h
    · rw [if_neg q2] at h
      cases h
      exact rfl
theorem xl_refuseNoKey {x : Int32} {X : String} (h : m_X6_refuseNoKey x = .inl X) : X = "java/lang/IllegalArgumentException" := by
  unfold m_X6_refuseNoKey at h
  rcases xb_cases h with h | ⟨_, _, h⟩
  · have h9 := xl_refuseOutside h
    subst h9
    exact rfl
  · cases h
theorem xl_refuseNoVoice {x : Int32} {X : String} (h : m_X6_refuseNoVoice x = .inl X) : X = "java/lang/IndexOutOfBoundsException" := by
  unfold m_X6_refuseNoVoice at h
  by_cases q3 : x < 0
  · rw [if_pos q3] at h
    cases h
    exact rfl
  · rw [if_neg q3] at h
    by_cases q4 : x < 4
    · rw [if_pos q4] at h
      cases h
    · rw [if_neg q4] at h
      cases h
      exact rfl
theorem xl_refuseFullBoard {c : Nat → Nat → Int32} {X : String} (h : m_X6_refuseFullBoard c = .inl X) : X = "java/lang/IllegalStateException" := by
  unfold m_X6_refuseFullBoard at h
  by_cases q5 : (c 1 0) < 10
  · rw [if_pos q5] at h
    cases h
  · rw [if_neg q5] at h
    cases h
    exact rfl
theorem xl_refuseNoNode {c : Nat → Nat → Int32} {x : Int32} {X : String} (h : m_X6_refuseNoNode c x = .inl X) : X = "java/lang/IndexOutOfBoundsException" := by
  unfold m_X6_refuseNoNode at h
  by_cases q6 : x < 0
  · rw [if_pos q6] at h
    cases h
    exact rfl
  · rw [if_neg q6] at h
    by_cases q7 : x < (c 1 0)
    · rw [if_pos q7] at h
      cases h
    · rw [if_neg q7] at h
      cases h
      exact rfl
theorem xl_refuseNoWire {c : Nat → Nat → Int32} {t : Nat} {x : Int32} {X : String} (h : m_X6_refuseNoWire c t x = .inl X) : X = "java/util/NoSuchElementException" := by
  unfold m_X6_refuseNoWire at h
  by_cases q8 : x < 0
  · rw [if_pos q8] at h
    cases h
    exact rfl
  · rw [if_neg q8] at h
    by_cases q9 : x < (c 10 t)
    · rw [if_pos q9] at h
      cases h
    · rw [if_neg q9] at h
      cases h
      exact rfl
theorem xl_refuseFree {c : Nat → Nat → Int32} {v : Nat} {X : String} (h : m_X6_refuseFree c v = .inl X) : X = "java/lang/IllegalStateException" := by
  unfold m_X6_refuseFree at h
  by_cases q10 : (c (34 + 3 + 2 * v) 0) = 0
  · rw [if_pos q10] at h
    cases h
    exact rfl
  · rw [if_neg q10] at h
    cases h
theorem xl_refuseSilence {c : Nat → Nat → Int32} {X : String} (h : m_X6_refuseSilence c = .inl X) : X = "java/lang/ArithmeticException" := by
  unfold m_X6_refuseSilence at h
  by_cases q11 : (c 106 1) = 0
  · rw [if_pos q11] at h
    cases h
    exact rfl
  · rw [if_neg q11] at h
    cases h
theorem xl_addGain {c : Nat → Nat → Int32} {x : Int32} {X : String} (h : m_X6_addGain c x = .inl X) : X = "java/lang/IllegalArgumentException" ∨ X = "java/lang/IllegalStateException" := by
  unfold m_X6_addGain at h
  rcases xb_cases h with h | ⟨_, _, h⟩
  · have h9 := xl_refuseOutside h
    subst h9
    exact Or.inl rfl
  · rcases xb_cases h with h | ⟨_, _, h⟩
    · have h9 := xl_refuseFullBoard h
      subst h9
      exact Or.inr (rfl)
    · cases h
theorem xl_addDelay {c : Nat → Nat → Int32} {x y : Int32} {X : String} (h : m_X6_addDelay c x y = .inl X) : X = "java/lang/IllegalArgumentException" ∨ X = "java/lang/IllegalStateException" := by
  unfold m_X6_addDelay at h
  rcases xb_cases h with h | ⟨_, _, h⟩
  · have h9 := xl_refuseOutside h
    subst h9
    exact Or.inl rfl
  · rcases xb_cases h with h | ⟨_, _, h⟩
    · have h9 := xl_refuseOutside h
      subst h9
      exact Or.inl rfl
    · rcases xb_cases h with h | ⟨_, _, h⟩
      · have h9 := xl_refuseFullBoard h
        subst h9
        exact Or.inr (rfl)
      · cases h
theorem xl_addFilter {c : Nat → Nat → Int32} {x y z : Int32} {X : String} (h : m_X6_addFilter c x y z = .inl X) : X = "java/lang/IllegalArgumentException" ∨ X = "java/lang/IllegalStateException" := by
  unfold m_X6_addFilter at h
  rcases xb_cases h with h | ⟨_, _, h⟩
  · have h9 := xl_refuseOutside h
    subst h9
    exact Or.inl rfl
  · rcases xb_cases h with h | ⟨_, _, h⟩
    · have h9 := xl_refuseOutside h
      subst h9
      exact Or.inl rfl
    · rcases xb_cases h with h | ⟨_, _, h⟩
      · have h9 := xl_refuseOutside h
        subst h9
        exact Or.inl rfl
      · rcases xb_cases h with h | ⟨_, _, h⟩
        · have h9 := xl_refuseFullBoard h
          subst h9
          exact Or.inr (rfl)
        · cases h
theorem xl_addBus {c : Nat → Nat → Int32} {x : Int32} {X : String} (h : m_X6_addBus c x = .inl X) : X = "java/lang/IllegalArgumentException" ∨ X = "java/lang/IllegalStateException" := by
  unfold m_X6_addBus at h
  rcases xb_cases h with h | ⟨_, _, h⟩
  · have h9 := xl_refuseOutside h
    subst h9
    exact Or.inl rfl
  · rcases xb_cases h with h | ⟨_, _, h⟩
    · have h9 := xl_refuseFullBoard h
      subst h9
      exact Or.inr (rfl)
    · cases h
theorem xl_connect {c : Nat → Nat → Int32} {x y z : Int32} {X : String} (h : m_X6_connect c x y z = .inl X) : X = "java/lang/IndexOutOfBoundsException" ∨ X = "java/lang/IllegalArgumentException" ∨ X = "java/lang/IllegalStateException" ∨ X = "java/lang/UnsupportedOperationException" := by
  unfold m_X6_connect at h
  rcases xb_cases h with h | ⟨_, _, h⟩
  · have h9 := xl_refuseNoNode h
    subst h9
    exact Or.inl rfl
  · rcases xb_cases h with h | ⟨_, _, h⟩
    · have h9 := xl_refuseNoNode h
      subst h9
      exact Or.inl rfl
    · rcases xb_cases h with h | ⟨_, _, h⟩
      · have h9 := xl_refuseOutside h
        subst h9
        exact Or.inr (Or.inl rfl)
      · by_cases q12 : z = 0
        · rw [if_pos q12] at h
          cases h
          exact Or.inr (Or.inl rfl)
        · rw [if_neg q12] at h
          by_cases q13 : (m_X0_findWire c x (zn y)) = (-1)
          · rw [if_pos q13] at h
            by_cases q14 : (c 10 (zn y)) < 4
            · rw [if_pos q14] at h
              by_cases q15 : (c 2 (zn y)) = 118
              · rw [if_pos q15] at h
                cases h
                exact Or.inr (Or.inr (Or.inr (rfl)))
              · rw [if_neg q15] at h
                by_cases q16 : (m_X0_closesBareCircle c (zn x) (zn y)) = 0
                · rw [if_pos q16] at h
                  cases h
                · rw [if_neg q16] at h
                  cases h
                  exact Or.inr (Or.inr (Or.inr (rfl)))
            · rw [if_neg q14] at h
              cases h
              exact Or.inr (Or.inr (Or.inl rfl))
          · rw [if_neg q13] at h
            cases h
            exact Or.inr (Or.inr (Or.inl rfl))
theorem xl_disconnect {c : Nat → Nat → Int32} {x y : Int32} {X : String} (h : m_X6_disconnect c x y = .inl X) : X = "java/lang/IndexOutOfBoundsException" ∨ X = "java/util/NoSuchElementException" := by
  unfold m_X6_disconnect at h
  rcases xb_cases h with h | ⟨_, _, h⟩
  · have h9 := xl_refuseNoNode h
    subst h9
    exact Or.inl rfl
  · rcases xb_cases h with h | ⟨_, _, h⟩
    · have h9 := xl_refuseNoNode h
      subst h9
      exact Or.inl rfl
    · by_cases q17 : (m_X0_findWire c x (zn y)) = (-1)
      · rw [if_pos q17] at h
        cases h
        exact Or.inr (rfl)
      · rw [if_neg q17] at h
        cases h
theorem xl_setGain {c : Nat → Nat → Int32} {x y : Int32} {X : String} (h : m_X6_setGain c x y = .inl X) : X = "java/lang/IndexOutOfBoundsException" ∨ X = "java/lang/UnsupportedOperationException" ∨ X = "java/lang/IllegalArgumentException" := by
  unfold m_X6_setGain at h
  rcases xb_cases h with h | ⟨_, _, h⟩
  · have h9 := xl_refuseNoNode h
    subst h9
    exact Or.inl rfl
  · by_cases q18 : (c 2 (zn x)) = 103
    · rw [if_pos q18] at h
      rcases xb_cases h with h | ⟨_, _, h⟩
      · have h9 := xl_refuseOutside h
        subst h9
        exact Or.inr (Or.inr (rfl))
      · cases h
    · rw [if_neg q18] at h
      cases h
      exact Or.inr (Or.inl rfl)
theorem xl_setOutput {c : Nat → Nat → Int32} {x : Int32} {X : String} (h : m_X6_setOutput c x = .inl X) : X = "java/lang/IndexOutOfBoundsException" := by
  unfold m_X6_setOutput at h
  rcases xb_cases h with h | ⟨_, _, h⟩
  · have h9 := xl_refuseNoNode h
    subst h9
    exact rfl
  · cases h
theorem xl_kindOf {c : Nat → Nat → Int32} {x : Int32} {X : String} (h : m_X6_kindOf c x = .inl X) : X = "java/lang/IndexOutOfBoundsException" := by
  unfold m_X6_kindOf at h
  rcases xb_cases h with h | ⟨_, _, h⟩
  · have h9 := xl_refuseNoNode h
    subst h9
    exact rfl
  · cases h
theorem xl_wires {c : Nat → Nat → Int32} {x : Int32} {X : String} (h : m_X6_wires c x = .inl X) : X = "java/lang/IndexOutOfBoundsException" := by
  unfold m_X6_wires at h
  rcases xb_cases h with h | ⟨_, _, h⟩
  · have h9 := xl_refuseNoNode h
    subst h9
    exact rfl
  · cases h
theorem xl_wireFrom {c : Nat → Nat → Int32} {x y : Int32} {X : String} (h : m_X6_wireFrom c x y = .inl X) : X = "java/lang/IndexOutOfBoundsException" ∨ X = "java/util/NoSuchElementException" := by
  unfold m_X6_wireFrom at h
  rcases xb_cases h with h | ⟨_, _, h⟩
  · have h9 := xl_refuseNoNode h
    subst h9
    exact Or.inl rfl
  · rcases xb_cases h with h | ⟨_, _, h⟩
    · have h9 := xl_refuseNoWire h
      subst h9
      exact Or.inr (rfl)
    · cases h
theorem xl_wirePercent {c : Nat → Nat → Int32} {x y : Int32} {X : String} (h : m_X6_wirePercent c x y = .inl X) : X = "java/lang/IndexOutOfBoundsException" ∨ X = "java/util/NoSuchElementException" := by
  unfold m_X6_wirePercent at h
  rcases xb_cases h with h | ⟨_, _, h⟩
  · have h9 := xl_refuseNoNode h
    subst h9
    exact Or.inl rfl
  · rcases xb_cases h with h | ⟨_, _, h⟩
    · have h9 := xl_refuseNoWire h
      subst h9
      exact Or.inr (rfl)
    · cases h
theorem xl_nodeAt {c : Nat → Nat → Int32} {x : Int32} {X : String} (h : m_X6_nodeAt c x = .inl X) : X = "java/lang/IndexOutOfBoundsException" := by
  unfold m_X6_nodeAt at h
  rcases xb_cases h with h | ⟨_, _, h⟩
  · have h9 := xl_refuseNoNode h
    subst h9
    exact rfl
  · cases h
theorem xl_begin {c : Nat → Nat → Int32} {en : Nat → Nat} {ea : Nat → Nat → Int32} {x y : Int32} {X : String} (h : m_X6_begin c en ea x y = .inl X) : X = "java/lang/IllegalArgumentException" := by
  unfold m_X6_begin at h
  rcases xb_cases h with h | ⟨_, _, h⟩
  · have h9 := xl_refuseNoKey h
    subst h9
    exact rfl
  · rcases xb_cases h with h | ⟨_, _, h⟩
    · have h9 := xl_refuseOutside h
      subst h9
      exact rfl
    · cases h
theorem xl_end {c : Nat → Nat → Int32} {ea : Nat → Nat → Int32} {x : Int32} {X : String} (h : m_X6_end c ea x = .inl X) : X = "java/lang/IllegalArgumentException" ∨ X = "java/util/NoSuchElementException" := by
  unfold m_X6_end at h
  rcases xb_cases h with h | ⟨_, _, h⟩
  · have h9 := xl_refuseNoKey h
    subst h9
    exact Or.inl rfl
  · by_cases q19 : (m_X1_firstHeld c ea 34 x) = (-1)
    · rw [if_pos q19] at h
      cases h
      exact Or.inr (rfl)
    · rw [if_neg q19] at h
      cases h
theorem xl_stateOf {c : Nat → Nat → Int32} {ea : Nat → Nat → Int32} {x : Int32} {X : String} (h : m_X6_stateOf c ea x = .inl X) : X = "java/lang/IndexOutOfBoundsException" := by
  unfold m_X6_stateOf at h
  rcases xb_cases h with h | ⟨_, _, h⟩
  · have h9 := xl_refuseNoVoice h
    subst h9
    exact rfl
  · cases h
theorem xl_keyOf {c : Nat → Nat → Int32} {x : Int32} {X : String} (h : m_X6_keyOf c x = .inl X) : X = "java/lang/IndexOutOfBoundsException" ∨ X = "java/lang/IllegalStateException" := by
  unfold m_X6_keyOf at h
  rcases xb_cases h with h | ⟨_, _, h⟩
  · have h9 := xl_refuseNoVoice h
    subst h9
    exact Or.inl rfl
  · rcases xb_cases h with h | ⟨_, _, h⟩
    · have h9 := xl_refuseFree h
      subst h9
      exact Or.inr (rfl)
    · cases h
theorem xl_levelOf {c : Nat → Nat → Int32} {ea : Nat → Nat → Int32} {x : Int32} {X : String} (h : m_X6_levelOf c ea x = .inl X) : X = "java/lang/IndexOutOfBoundsException" := by
  unfold m_X6_levelOf at h
  rcases xb_cases h with h | ⟨_, _, h⟩
  · have h9 := xl_refuseNoVoice h
    subst h9
    exact rfl
  · cases h
theorem xl_phaseOf {c : Nat → Nat → Int32} {x : Int32} {X : String} (h : m_X6_phaseOf c x = .inl X) : X = "java/lang/IndexOutOfBoundsException" ∨ X = "java/lang/IllegalStateException" := by
  unfold m_X6_phaseOf at h
  rcases xb_cases h with h | ⟨_, _, h⟩
  · have h9 := xl_refuseNoVoice h
    subst h9
    exact Or.inl rfl
  · rcases xb_cases h with h | ⟨_, _, h⟩
    · have h9 := xl_refuseFree h
      subst h9
      exact Or.inr (rfl)
    · cases h
theorem xl_play {c : Nat → Nat → Int32} {w : Nat → Int64} {ea : Nat → Nat → Int32} {x : Int32} {X : String} (h : m_X6_play c w ea x = .inl X) : X = "java/lang/IllegalArgumentException" := by
  unfold m_X6_play at h
  rcases xb_cases h with h | ⟨_, _, h⟩
  · have h9 := xl_refuseOutside h
    subst h9
    exact rfl
  · cases h
theorem xl_ahead {c : Nat → Nat → Int32} {en : Nat → Nat} {ea : Nat → Nat → Int32} {x : Int32} {X : String} (h : m_X6_ahead c en ea x = .inl X) : X = "java/lang/IllegalArgumentException" := by
  unfold m_X6_ahead at h
  rcases xb_cases h with h | ⟨_, _, h⟩
  · have h9 := xl_refuseOutside h
    subst h9
    exact rfl
  · cases h
theorem xl_aheadByBlocks {c : Nat → Nat → Int32} {en : Nat → Nat} {ea : Nat → Nat → Int32} {x y : Int32} {X : String} (h : m_X6_aheadByBlocks c en ea x y = .inl X) : X = "java/lang/IllegalArgumentException" := by
  unfold m_X6_aheadByBlocks at h
  rcases xb_cases h with h | ⟨_, _, h⟩
  · have h9 := xl_refuseOutside h
    subst h9
    exact rfl
  · rcases xb_cases h with h | ⟨_, _, h⟩
    · have h9 := xl_refuseOutside h
      subst h9
      exact rfl
    · cases h
theorem xl_heard {c : Nat → Nat → Int32} {x : Int32} {X : String} (h : m_X6_heard c x = .inl X) : X = "java/lang/IllegalArgumentException" ∨ X = "java/util/NoSuchElementException" := by
  unfold m_X6_heard at h
  rcases xb_cases h with h | ⟨_, _, h⟩
  · have h9 := xl_refuseOutside h
    subst h9
    exact Or.inl rfl
  · by_cases q20 : x < (c 106 1)
    · rw [if_pos q20] at h
      cases h
    · rw [if_neg q20] at h
      cases h
      exact Or.inr (rfl)
theorem xl_outputOf {c : Nat → Nat → Int32} {x : Int32} {X : String} (h : m_X6_outputOf c x = .inl X) : X = "java/lang/IndexOutOfBoundsException" := by
  unfold m_X6_outputOf at h
  rcases xb_cases h with h | ⟨_, _, h⟩
  · have h9 := xl_refuseNoNode h
    subst h9
    exact rfl
  · cases h
theorem xl_setWave {c : Nat → Nat → Int32} {x : Int32} {X : String} (h : m_X6_setWave c x = .inl X) : X = "java/lang/IllegalArgumentException" := by
  unfold m_X6_setWave at h
  by_cases q21 : x = 115
  · rw [if_pos q21] at h
    cases h
  · rw [if_neg q21] at h
    by_cases q22 : x = 113
    · rw [if_pos q22] at h
      cases h
    · rw [if_neg q22] at h
      by_cases q23 : x = 116
      · rw [if_pos q23] at h
        cases h
      · rw [if_neg q23] at h
        cases h
        exact rfl