/-! isConsistent -/
theorem ord_1 {c : Nat → Nat → Int32} (h1 : zI1 c) (h3 : zI3 c) (h2 : zI2 c) (h4 : zI4 c) : m_X0_isInOrder c = 1 := by
  have h10 := h1.2.2.1
  have g : ∀ (n i : Nat) (x : Int32), i + n = zn (c 1 0) → (∀ q, q < i → bt x (zn (c 33 q)) = true) → g1_X0_isInOrder c n i x (fun _ _ => 1) = 1 := by
    intro n
    induction n with
    | zero => intro i x _ _; rfl
    | succ n ih =>
      intro i x hi h
      have hin : i < zn (c 1 0) := by omega
      have nd := (h4.1 i hin).2
      have next : ∀ q, q < i + 1 → bt (x ||| (1 <<< (c 33 i &&& 31))) (zn (c 33 q)) = true := fun q hq => by
        have hq9 := (h4.1 q (by omega)).2
        rw [zn_eq (c 33 i)]
        refine (bt_set x (by omega) (by omega)).mpr ?_
        by_cases e : q = i
        · subst e; exact Or.inr rfl
        · exact Or.inl (h q (by omega))
      rw [g1_X0_isInOrder]
      by_cases k2 : c 2 (zn (c 33 i)) = 100
      · rw [if_pos k2]; exact ih (i + 1) _ (by omega) next
      · rw [if_neg k2]
        have hw : m_X0_hasWireFrom c (zn (c 33 i)) (x ^^^ (-1)) = 0 := by
          refine (hasWire_bt (x ^^^ (-1)) (fun q hq => by have := ((h3 _ nd).2.2 q hq).2.2; omega)).mpr (fun q hq => ?_)
          have hs := ((h3 _ nd).2.2 q hq).2.2
          rw [bt_not x (by omega)]
          have hd : ¬ c 114 (zn (c 33 i)) = 2 := fun e => by
            rcases (h2 _ nd).1 with ⟨a, b⟩ | ⟨a, b⟩ | ⟨a, b⟩ | ⟨a, b⟩ | ⟨a, b⟩
            · rw [b] at e; exact absurd e (by decide)
            · rw [b] at e; exact absurd e (by decide)
            · exact k2 a
            · rw [b] at e; exact absurd e (by decide)
            · rw [b] at e; exact absurd e (by decide)
          obtain ⟨p, hp, e⟩ := h4.2.2.2 i hin hd q hq
          rw [← e]
          exact fun z => z (h p hp)
        rw [if_pos hw]; exact ih (i + 1) _ (by omega) next
  exact g _ 0 0 (by omega) (fun q hq => by omega)
theorem in_01 (x y z : Int32) : r_X7_in x y z = 0 ∨ r_X7_in x y z = 1 := by
  unfold r_X7_in
  split
  · exact Or.inl rfl
  · split
    · exact Or.inl rfl
    · exact Or.inr rfl
theorem lev_c {c ea : Nat → Nat → Int32} (h : ∀ v, v < 4 → m_X5_level c ea 34 v = m_X7_levelAt c v) : m_X1_hasLevelsInRange c ea 34 = 0 ∧ (∃ v, v < 4 ∧ r_X7_in (m_X7_levelAt c v) 0 1000 = 0) ∨ m_X1_hasLevelsInRange c ea 34 = 1 ∧ (∀ v, v < 4 → r_X7_in (m_X7_levelAt c v) 0 1000 = 1) := by
  have g : ∀ (n i : Nat), i + n = 4 → (g1_X1_hasLevelsInRange c ea 34 n i (fun _ => 1) = 0 ∧ (∃ v, v < 4 ∧ r_X7_in (m_X7_levelAt c v) 0 1000 = 0)) ∨ (g1_X1_hasLevelsInRange c ea 34 n i (fun _ => 1) = 1 ∧ (∀ v, i ≤ v → v < 4 → r_X7_in (m_X7_levelAt c v) 0 1000 = 1)) := by
    intro n
    induction n with
    | zero => intro i hi; exact Or.inr ⟨rfl, fun v h1 h2 => by omega⟩
    | succ n ih =>
      intro i hi
      rw [g1_X1_hasLevelsInRange, h i (by omega)]
      by_cases a : m_X7_levelAt c i < 0
      · rw [if_pos a]
        exact Or.inl ⟨rfl, i, by omega, if_pos a⟩
      · rw [if_neg a]
        by_cases b : m_X7_levelAt c i ≤ 1000
        · rw [if_pos b]
          rcases ih (i + 1) (by omega) with h9 | ⟨h9, h8⟩
          · exact Or.inl h9
          · refine Or.inr ⟨h9, fun v h1 h2 => ?_⟩
            by_cases e : v = i
            · subst e
              unfold r_X7_in
              rw [if_neg a, if_neg (Int32.not_lt.mpr b)]
            · exact h8 v (by omega) h2
        · rw [if_neg b]
          refine Or.inl ⟨rfl, i, by omega, ?_⟩
          unfold r_X7_in
          rw [if_neg a, if_pos (Int32.not_le.mp b)]
  rcases g 4 0 rfl with h9 | ⟨h9, h8⟩
  · exact Or.inl h9
  · exact Or.inr ⟨h9, fun v hv => h8 v (Nat.zero_le _) hv⟩
theorem place_at {c : Nat → Nat → Int32} {n p : Nat} {x : Int32} (hn : n ≤ 10) (hp : p < n) (hx : c 121 p = x) (hj : ∀ q, q < p → ¬ c 121 q = x) : m_X7_placeOf c x = nI p := by
  have g : ∀ (m k : Nat), k + m = 9 → k ≤ p → g1_X7_placeOf c x m k (fun k => nI k) = nI p := by
    intro m
    induction m with
    | zero => intro k h1 h2; rw [show p = k by omega]; rfl
    | succ m ih =>
      intro k h1 h2
      rw [g1_X7_placeOf]
      by_cases e : k = p
      · subst e; rw [if_pos hx]
      · rw [if_neg (hj k (by omega))]; exact ih (k + 1) (by omega) (by omega)
  exact g 9 0 (by omega) (Nat.zero_le _)
theorem cons_ref {c C : Nat → Nat → Int32} (h1 : zI1 c) (h2 : zI2 c) (h3 : zI3 c) (h4 : zI4 c) (hC : ∀ x, 110 ≤ x → C x = c x) : ((∃ v, v < 4 ∧ r_X7_in (m_X7_levelAt c v) 0 1000 = 0) → m_X7_isConsistent C = (0, zup C 111 12 0)) ∧ ((∀ v, v < 4 → r_X7_in (m_X7_levelAt c v) 0 1000 = 1) → m_X7_isConsistent C = (1, zup C 111 12 0)) := by
  have h10 := h1.2.2.1
  have hl : ∀ v, m_X7_levelAt (zup C 111 12 0) v = m_X7_levelAt c v := fun v => by
    rw [levelAt_th]
    exact lev_cg (fun q _ => by unfold m_X7_at; rw [hC 112 (by decide)])
  have pl : ∀ p, p < zn (c 1 0) → m_X7_placeOf (zup C 111 12 0) (c 33 p) = nI p := fun p hp => by
    refine place_at h10 hp (by rw [zup_i _ _ _ (by decide), hC 121 (by decide)]; exact (h4.1 p hp).1) (fun q hq e => ?_)
    rw [zup_i _ _ _ (by decide), hC 121 (by decide), (h4.1 q (by omega)).1] at e
    have := h4.2.1 q p (by omega) hp e
    omega
  have g2 : ∀ (i : Nat), i < zn (c 1 0) → ∀ (K : Nat → Int32 × (Nat → Nat → Int32)) (Q : Int32 × (Nat → Nat → Int32)), (∀ j, K j = Q) → ∀ (n j : Nat), j + n = zn (c 120 i) → g2_X7_isConsistent C i n j K = Q := by
    intro i hi K Q hK n
    obtain ⟨s1, s2, s3⟩ := h3 i hi
    induction n with
    | zero => intro j hj; exact hK j
    | succ n ih =>
      intro j hj
      rw [g2_X7_isConsistent, hC 114 (by decide), hC 118 (by decide)]
      by_cases hd : c 114 i = 2
      · rw [if_pos hd]; exact hK j
      · rw [if_neg hd]
        obtain ⟨p, hp, e⟩ := h4.2.2.1 (nI i) (by rw [zn_nI (by omega)]; exact hi)
        have ei : zn (c 33 p) = i := by rw [e, zn_nI (by omega)]
        obtain ⟨q, hq, e2⟩ := h4.2.2.2 p hp (by rw [ei]; exact hd) j (by rw [ei, ← s1]; omega)
        rw [ei] at e2
        rw [(s3 j (by rw [← s1]; omega)).1, ← e2, ← e, pl q (by omega), pl p hp, if_pos ((z_le rfl rfl (by omega) (by omega)).mpr (by omega))]
        exact ih (j + 1) (by omega)
  have g1 : ∀ (K : Nat → Int32 × (Nat → Nat → Int32)) (Q : Int32 × (Nat → Nat → Int32)), (∀ j, K j = Q) → ∀ (n i : Nat), i + n = zn (c 1 0) → g1_X7_isConsistent C n i K = Q := by
    intro K Q hK n
    induction n with
    | zero => intro i _; exact hK i
    | succ n ih =>
      intro i hi
      rw [g1_X7_isConsistent, hC 120 (by decide)]
      exact g2 i (by omega) _ Q (fun _ => ih (i + 1) (by omega)) _ 0 (by omega)
  have top : ∀ Q : Int32 × (Nat → Nat → Int32), g3_X7_isConsistent C 4 0 (fun _ => (1, zup C 111 12 0)) = Q → m_X7_isConsistent C = Q := fun Q hQ => by
    unfold m_X7_isConsistent
    rw [hC 111 (by decide), h1.1]
    exact g1 _ Q (fun _ => hQ) _ 0 (by omega)
  refine ⟨fun ⟨v, hv, h0⟩ => top _ ?_, fun ha => top _ ?_⟩
  · have g : ∀ (n i : Nat), i + n = 4 → i ≤ v → g3_X7_isConsistent C n i (fun _ => (1, zup C 111 12 0)) = (0, zup C 111 12 0) := by
      intro n
      induction n with
      | zero => intro i h5 h6; omega
      | succ n ih =>
        intro i h5 h6
        rw [g3_X7_isConsistent, hl]
        by_cases e : r_X7_in (m_X7_levelAt c i) 0 1000 = 0
        · rw [if_pos e]
        · rw [if_neg e]
          have : i ≠ v := fun e9 => e (by rw [e9]; exact h0)
          exact ih (i + 1) (by omega) (by omega)
    exact g 4 0 rfl (Nat.zero_le _)
  · have g : ∀ (n i : Nat), i + n = 4 → g3_X7_isConsistent C n i (fun _ => (1, zup C 111 12 0)) = (1, zup C 111 12 0) := by
      intro n
      induction n with
      | zero => intro i _; rfl
      | succ n ih =>
        intro i h5
        rw [g3_X7_isConsistent, hl, if_neg (by rw [ha i (by omega)]; decide)]
        exact ih (i + 1) (by omega)
    exact g 4 0 rfl
theorem looks_ok {j : Nat} {c : Nat → Nat → Int32} {w : Nat → Int64} {en : Nat → Nat} {ea : Nat → Nat → Int32} {z y y2 : Nat} (hI : zInv j c w ea) (hj : j < 512) (hz : z ≤ 64) (hy : y ≤ 64) (hy2 : y2 ≤ 64) (L1 : (Nat → Nat → Int32) × (Nat → Nat) × (Nat → Nat → Int32)) (e1 : m_X6_lookAhead c en ea z y 108 = L1) (L2 : (Nat → Nat → Int32) × (Nat → Nat) × (Nat → Nat → Int32)) (e2 : m_X6_lookAhead L1.1 L1.2.1 L1.2.2 z y2 109 = L2) : (∀ i, i < z → L2.1 108 i = L2.1 109 i) ∧ (∀ k, (∀ v, v < 4 → k ≠ 70 + 3 + 2 * v) → L2.2.2 k = ea k) := by
  obtain ⟨g0, g1, g2, g2b, g3, g4, g5, g8, g9, g10, g11, g12, b1, b2, b3⟩ := hI
  have h10 := g1.2.2.1
  have e : zSg c c := ⟨rfl, rfl, fun _ _ _ => rfl⟩
  have hD : zDp c (c 112) := inv_dp g2 g11
  have sm : ∀ i, zSm c (mN c i 112) (mN c (i + 1) 112) := fun i => (mseq_sm g1 g2 g3 g4 e hD i).1
  have s10 := seq_10 (R := fun i => mN c i 112) (T := 4000 * j) sm (by omega) (fun v hv => (b3 v hv).2.1)
  have hL : ∀ i, i ≤ z → ∀ v, v < 4 → zn (mN c i 112 (640 + 16 * v + 10)) ≤ 4000 * j + 64 := fun i hi v hv => by have := s10 i (by omega) v hv; omega
  obtain ⟨l1, l2, l3⟩ := look_ok (c := c) (C := c) (ea := ea) (en := en) (z := z) (y := y) (r := 108) (T := 4000 * j + 64) (m0 := zn (c 111 21)) (R := fun i => mN c i 112) (by decide) (by decide) g1 g2 g3 g4 (fun _ _ => rfl) rfl hz hy (fun i _ => sm i) hL (by omega) g11 g10
  rw [e1] at l1 l2 l3
  obtain ⟨k1, k2, k3⟩ := look_ok (c := c) (C := L1.1) (ea := L1.2.2) (en := L1.2.1) (z := z) (y := y2) (r := 109) (T := 4000 * j + 64) (m0 := zn (c 111 21)) (R := fun i => mN c i 112) (by decide) (by decide) g1 g2 g3 g4 (fun x hx => l2 x (by omega) (by omega)) (l2 114 (by decide) (by decide)) hz hy2 (fun i _ => sm i) hL (by omega) (zTr.cg (C := c) h10 (fun x hx => l2 x (by omega) (by omega)) g11) (g10.congr (fun v hv => l2 _ (by omega) (by omega)) (fun v hv => l3 _ (fun u hu => by omega)) (fun _ _ _ => rfl))
  rw [e2] at k1 k2 k3
  refine ⟨fun i hi => ?_, fun k hk => (k3 k hk).trans (l3 k hk)⟩
  rw [k1 i hi, k2 108 (by decide) (by decide), l1 i hi]
theorem pP_isConsistent : zP_isConsistent zInv := by
  intro j c w en ea z hz20 hI hj
  have hI' := hI
  obtain ⟨g0, g1, g2, g2b, g3, g4, g5, g8, g9, g10, g11, g12, b1, b2, b3⟩ := hI'
  have hlev : ∀ v, v < 4 → m_X5_level c ea 34 v = m_X7_levelAt c v := fun v hv => level_eq (g10 v hv) (b3 v hv).2.1 (by omega)
  unfold m_X6_isConsistent
  rw [if_neg (show ¬ m_X0_isInOrder c = 0 by rw [ord_1 g1 g3 g2 g4]; decide)]
  rcases lev_c hlev with ⟨e0, e1⟩ | ⟨e0, e1⟩
  · rw [if_pos e0]
    intro hFw hgw hF7 hg7
    dsimp only at hg7 ⊢
    rw [(cons_ref g1 g2 g3 g4 (fun _ _ => rfl)).1 e1] at hg7 ⊢
    exact q_dir hI hg7 rfl
  · rw [if_neg (show ¬ m_X1_hasLevelsInRange c ea 34 = 0 by rw [e0]; decide)]
    have key := looks_ok (en := en) (z := z) (y := 1) (y2 := 7) hI hj (by omega) (by decide) (by decide)
    have hK : ∀ (n i : Nat) (K : Nat → Int32 × (Nat → Nat → Int32) × (Nat → Nat) × (Nat → Nat → Int32)) (Q : Int32 × (Nat → Nat → Int32) × (Nat → Nat) × (Nat → Nat → Int32)), i + n = 20 → (∀ j, K j = Q) → g1_X6_isConsistent c en ea z n i K = Q := by
      intro n
      induction n with
      | zero => intro i K Q _ h; exact h i
      | succ n ih =>
        intro i K Q hi h
        rw [g1_X6_isConsistent, if_pos ((key _ rfl _ rfl).1 i (by omega))]
        exact ih (i + 1) K Q (by omega) h
    rw [hK 20 0 _ _ rfl (fun _ => rfl)]
    have key2 := (key _ rfl _ rfl).2
    generalize m_X6_lookAhead ((m_X6_lookAhead c en ea z 1 108).1) ((m_X6_lookAhead c en ea z 1 108).2.1) ((m_X6_lookAhead c en ea z 1 108).2.2) z 7 109 = L at key2 ⊢
    obtain ⟨C, en', ea'⟩ := L
    intro hFw hgw hF7 hg7
    dsimp only at hFw hgw hF7 hg7 key2 ⊢
    have hf : ∀ i, 110 ≤ i → C i = c i := fun i hi => hFw i (by omega)
    have hR := (cons_ref g1 g2 g3 g4 hf).2 e1
    rw [hR] at hF7 hg7 ⊢
    dsimp only at hF7 hg7 ⊢
    refine ⟨rfl, ?_⟩
    refine hI.congr (fun i k h => ?_) hg7 ⟨rfl, rfl⟩ ⟨key2 0 (fun v hv => by omega), fun v hv => key2 _ (fun u hu => by omega)⟩
    have h' : (i < 70 ∨ 106 ≤ i) ∧ i ≠ 108 ∧ i ≠ 109 ∧ i ≠ 113 ∧ i ≠ 123 ∧ ¬ (i = 111 ∧ k = 12) ∧ (i = 112 → k < 704) := h
    rw [zup_at, if_neg h'.2.2.2.2.2.1, hFw i (by omega)]
