/-! a node more -/
theorem or_I4 {c d A D C : Nat → Nat → Int32} {n : Nat} (h : zOr c d A D n) (hn : zn (C 1 0) = n) (e33 : C 33 = A 33) (e121 : C 121 = D 121) (e114 : C 114 = d 114) (e10 : C 10 = c 10) (e12 : ∀ k, k < n → C (12 + k) = c (12 + k)) : zI4 C := by
  unfold zI4
  rw [hn, e33, e121, e114, e10]
  refine ⟨h.e, h.j, h.s, fun p hp => ?_⟩
  rw [e12 _ (h.e p hp).2]
  exact h.g p hp
theorem fb_is {c : Nat → Nat → Int32} (h : zI1 c) : (m_X6_refuseFullBoard c = .inr () ∧ zn (c 1 0) < 10 ∧ ∀ A : Nat → Nat → Int32, A 111 13 = c 111 13 → m_X7_isFull A 0 = (0, zup A 111 12 0)) ∨ (m_X6_refuseFullBoard c = .inl "java/lang/IllegalStateException" ∧ m_X7_isFull c 0 = (1, zup c 111 12 2)) := by
  obtain ⟨e1, e2, e3, _⟩ := h
  unfold m_X6_refuseFullBoard m_X7_isFull
  have hz : c 1 0 < 10 ↔ zn (c 1 0) < 10 := z_lt (zn_eq (c 1 0)) (show (10 : Int32) = nI 10 by rfl) (by omega) (by omega)
  by_cases q : zn (c 1 0) < 10
  · left
    refine ⟨if_pos (hz.mpr q), q, fun A hA => ?_⟩
    rw [if_pos rfl, hA, e1, if_neg (fun z => by rw [z] at q; exact absurd q (by decide))]
  · right
    refine ⟨if_neg (fun z => q (hz.mp z)), ?_⟩
    rw [if_pos rfl, e1, if_pos (zn_inj (show zn (c 1 0) = 10 by omega))]
theorem full_1 (c : Nat → Nat → Int32) : m_X7_isFull c 1 = (1, zup c 111 12 1) := by unfold m_X7_isFull; exact if_neg (by decide)
theorem add_fin {j : Nat} {c D : Nat → Nat → Int32} {w w' : Nat → Int64} {ea : Nat → Nat → Int32} {n : Nat} (hI : zInv j c w ea) (hn : zn (c 1 0) = n) (h10 : n < 10) (h1 : D 1 0 = nI (n + 1)) (h13 : D 111 13 = nI (n + 1)) (hF : ∀ i k, zRl i k → ¬ (i = 1 ∧ k = 0) → ¬ (i = 111 ∧ k = 13) → i ≠ 33 → i ≠ 121 → ¬ (k = n ∧ ((2 ≤ i ∧ i ≤ 9) ∨ (114 ≤ i ∧ i ≤ 117))) → D i k = c i k) (hk : zKd (D 2 n) (D 114 n) ∧ (D 114 n = 0 ↔ n = 0) ∧ (D 114 n = 1 → D 115 n = D 3 n) ∧ (D 114 n = 2 → D 115 n = D 4 n ∧ D 116 n = D 5 n ∧ 1 ≤ zn (D 4 n) ∧ zn (D 4 n) ≤ 60) ∧ (D 114 n = 3 → D 115 n = D 6 n ∧ D 116 n = D 7 n ∧ D 117 n = D 8 n) ∧ (D 114 n = 4 → D 115 n = D 9 n)) (hO : zI4 D) (hA : zAc D (n + 1)) (hg : zG D) (hw : w' 106 = w 106 ∧ w' 111 = w 111) : zInv (j + 1) D w' ea := by
  obtain ⟨g0, g1, g2, g2b, g3, g4, g5, g8, g9, g10, g11, g12, g13⟩ := hI
  have H : ∀ i k, (i < 70 ∨ 106 ≤ i) ∧ i ≠ 108 ∧ i ≠ 109 ∧ i ≠ 113 ∧ i ≠ 123 ∧ ¬ (i = 111 ∧ k = 12) ∧ (i = 112 → k < 704) → ¬ (i = 1 ∧ k = 0) → ¬ (i = 111 ∧ k = 13) → i ≠ 33 → i ≠ 121 → ¬ (k = n ∧ ((2 ≤ i ∧ i ≤ 9) ∨ (114 ≤ i ∧ i ≤ 117))) → D i k = c i k := hF
  have z1 : zn (D 1 0) = n + 1 := by rw [h1, zn_nI (by omega)]
  have ns : nI (n + 1) = c 1 0 + 1 := zn_inj (by rw [zn_nI (by omega), zn_add (N := 10) (by omega) (by omega), hn])
  refine ⟨hg, ?_, ?_, ?_, ?_, hO, by unfold zI5; rw [z1]; exact hA, g8.congr (fun i k h => H i k (by omega) (by omega) (by omega) (by omega) (by omega) (by omega)) hw, g9.congr (fun i k h => H i k (by omega) (by omega) (by omega) (by omega) (by omega) (by omega)) rfl, ?_, ?_, ?_, (g13.congr (fun i k h => H i k (by omega) (by omega) (by omega) (by omega) (by omega) (by omega))).mono⟩
  · obtain ⟨a1, a2, a3, a4, a5⟩ := g1
    refine ⟨by rw [h13, h1], by omega, by omega, ?_, ?_⟩
    · rw [H 111 14 (by omega) (by omega) (by omega) (by omega) (by omega) (by omega), H 1 1 (by omega) (by omega) (by omega) (by omega) (by omega) (by omega)]; exact a4
    · rw [H 1 1 (by omega) (by omega) (by omega) (by omega) (by omega) (by omega)]; omega
  · intro k hk9
    rw [z1] at hk9
    by_cases e : k = n
    · subst e; exact hk
    · have r : ∀ i, (2 ≤ i ∧ i ≤ 9) ∨ (114 ≤ i ∧ i ≤ 117) → D i k = c i k := fun i hi => H i k (by omega) (by omega) (by omega) (by omega) (by omega) (by omega)
      rw [r 2 (by omega), r 114 (by omega), r 115 (by omega), r 3 (by omega), r 4 (by omega), r 116 (by omega), r 5 (by omega), r 6 (by omega), r 117 (by omega), r 7 (by omega), r 8 (by omega), r 9 (by omega)]
      exact g2 k (by omega)
  · intro k hk9
    rw [z1] at hk9
    rw [H 114 k (by omega) (by omega) (by omega) (by omega) (by omega) (by omega), H 120 k (by omega) (by omega) (by omega) (by omega) (by omega) (by omega), H 10 k (by omega) (by omega) (by omega) (by omega) (by omega) (by omega)]
    exact g2b k (by omega)
  · intro k hk9
    rw [z1] at hk9 ⊢
    rw [H 120 k (by omega) (by omega) (by omega) (by omega) (by omega) (by omega), H 10 k (by omega) (by omega) (by omega) (by omega) (by omega) (by omega)]
    by_cases e : k = n
    · obtain ⟨_, b2, b3⟩ := g2b k (by omega)
      rw [b2, b3]
      exact ⟨rfl, by decide, fun i hi => absurd hi (Nat.not_lt_zero _)⟩
    · obtain ⟨b1, b2, b3⟩ := g3 k (by omega)
      refine ⟨b1, b2, fun i hi => ?_⟩
      rw [H 118 _ (by omega) (by omega) (by omega) (by omega) (by omega) (by omega), H (12 + k) i (by omega) (by omega) (by omega) (by omega) (by omega) (by omega), H 119 _ (by omega) (by omega) (by omega) (by omega) (by omega) (by omega), H (23 + k) i (by omega) (by omega) (by omega) (by omega) (by omega) (by omega)]
      obtain ⟨d1, d2, d3⟩ := b3 i hi
      exact ⟨d1, d2, by omega⟩
  · rw [H 111 21 (by omega) (by omega) (by omega) (by omega) (by omega) (by omega)]
    exact g10.congr (fun v hv => funext fun k => H _ k (by omega) (by omega) (by omega) (by omega) (by omega) (by omega)) (fun _ _ => rfl) (fun q h1 h2 => H 112 q (by omega) (by omega) (by omega) (by omega) (by omega) (by omega))
  · intro k hk9
    rw [z1] at hk9
    have rr : ∀ q, q < 704 → D 112 q = c 112 q := fun q hq => H 112 q (by omega) (by omega) (by omega) (by omega) (by omega) (by omega)
    have rc : ∀ i q, 34 ≤ i → i < 70 → D i q = c i q := fun i q h8 h9 => H i q (by omega) (by omega) (by omega) (by omega) (by omega) (by omega)
    rw [rc (34 + 22) k (by omega) (by omega), rr _ (by omega), rc (34 + 23) k (by omega) (by omega), rr _ (by omega), rr _ (by omega), rc (34 + 35) k (by omega) (by omega), rr _ (by omega)]
    by_cases e : k = n
    · subst e
      obtain ⟨a1, a2, a3, a4, a5, a6, a7, a8⟩ := g12 k (by omega) h10
      refine ⟨by rw [a1, a7], fun _ => ⟨by rw [a2, a5], by rw [a6, a7]⟩, fun h2 => ⟨by rw [a3, a4], ?_, fun q hq => ?_⟩⟩
      · rw [a4]; have := (hk.2.2.2.1 h2).2.2.1; show 0 < _; omega
      · rw [rc _ _ (by omega) (by omega), rr _ (by omega), (a8 q hq).2]
        have := (a8 q hq).1
        rwa [show 59 + k = 34 + 25 + k by omega] at this
    · have e4 : D 4 k = c 4 k := H 4 k (by omega) (by omega) (by omega) (by omega) (by omega) (by omega)
      have e114 : D 114 k = c 114 k := H 114 k (by omega) (by omega) (by omega) (by omega) (by omega) (by omega)
      rw [e4, e114]
      obtain ⟨a1, a2, a3⟩ := g11 k (by omega)
      refine ⟨a1, a2, fun h2 => ?_⟩
      obtain ⟨b1, b2, b3⟩ := a3 h2
      exact ⟨b1, b2, fun q hq => by rw [rc _ _ (by omega) (by omega), rr _ (by omega)]; exact b3 q hq⟩
  · intro k hk9 hk10
    rw [z1] at hk9
    have rr : ∀ q, q < 704 → D 112 q = c 112 q := fun q hq => H 112 q (by omega) (by omega) (by omega) (by omega) (by omega) (by omega)
    have rc : ∀ i q, 34 ≤ i → i < 70 → D i q = c i q := fun i q h8 h9 => H i q (by omega) (by omega) (by omega) (by omega) (by omega) (by omega)
    rw [rc 56 k (by omega) (by omega), rc 57 k (by omega) (by omega), rc 69 k (by omega) (by omega), rr _ (by omega), rr _ (by omega), rr _ (by omega), rr _ (by omega)]
    obtain ⟨a1, a2, a3, a4, a5, a6, a7, a8⟩ := g12 k (by omega) hk10
    exact ⟨a1, a2, a3, a4, a5, a6, a7, fun q hq => by rw [rc _ _ (by omega) (by omega), rr _ (by omega)]; exact a8 q hq⟩
theorem add_gen {j : Nat} {c A : Nat → Nat → Int32} {w w' : Nat → Int64} {ea : Nat → Nat → Int32} {n : Nat} {K X y z u : Int32} (hI : zInv j c w ea) (hn : zn (c 1 0) = n) (h10 : n < 10) (hA : ∀ i k, ¬ (i = 1 ∧ k = 0) → ¬ (k = n ∧ 2 ≤ i ∧ i ≤ 9) → i ≠ 33 → A i k = c i k) (hA1 : A 1 0 = c 1 0 + 1) (hA33 : A 33 = m_X0_arrange (zup (zup c 2 n K) 1 0 (c 1 0 + 1)) 33) (hA2 : A 2 n = K) (hKX : zKd K X) (hX0 : ¬ X = 0) (p1 : X = 1 → y = A 3 n) (p2 : X = 2 → y = A 4 n ∧ z = A 5 n ∧ 1 ≤ zn y ∧ zn y ≤ 60) (p3 : X = 3 → y = A 6 n ∧ z = A 7 n ∧ u = A 8 n) (p4 : X = 4 → y = A 9 n) (hw : w' 106 = w 106 ∧ w' 111 = w 111) (hg : zG (m_X7_adds (zup A 111 12 0) X y z u).2) : (m_X7_adds (zup A 111 12 0) X y z u).2 111 12 = 0 ∧ (m_X7_adds (zup A 111 12 0) X y z u).1 = c 1 0 ∧ zInv (j + 1) (m_X7_adds (zup A 111 12 0) X y z u).2 w' ea := by
  have hI' := hI
  obtain ⟨g0, g1, g2, g2b, g3, g4, g5, g8, g9, g10, g11, g12, g13⟩ := hI'
  have e13 : zup A 111 12 0 111 13 = c 1 0 := by rw [zup_k _ _ (by decide), hA 111 13 (by omega) (by omega) (by omega), g1.1]
  have en : zn (zup A 111 12 0 111 13) = n := by rw [e13, hn]
  have ns : nI (n + 1) = c 1 0 + 1 := zn_inj (by rw [zn_nI (by omega), zn_add (N := 10) (by omega) (by omega), hn])
  have n0 : n ≠ 0 := by have := g1.2.1; omega
  unfold m_X7_adds at hg ⊢
  rw [en] at hg ⊢
  dsimp only at hg ⊢
  generalize hD0 : zup (zup (zup (zup (zup (zup A 111 12 0) 114 n X) 115 n y) 116 n z) 117 n u) 111 13 (nI (n + 1)) = D0 at hg ⊢
  generalize hC0 : zup (zup c 2 n K) 1 0 (c 1 0 + 1) = C0 at hA33
  have d0 : ∀ i k, ¬ (i = 111 ∧ (k = 12 ∨ k = 13)) → ¬ (k = n ∧ 114 ≤ i ∧ i ≤ 117) → D0 i k = A i k := fun i k h1 h2 => by
    rw [← hD0, zup_at, if_neg (by omega), zup_at, if_neg (by omega), zup_at, if_neg (by omega), zup_at, if_neg (by omega), zup_at, if_neg (by omega), zup_at, if_neg (by omega)]
  have d13 : D0 111 13 = nI (n + 1) := by rw [← hD0, zup_s]
  have d12 : D0 111 12 = 0 := by rw [← hD0, zup_k _ _ (by decide), zup_i _ _ _ (by decide), zup_i _ _ _ (by decide), zup_i _ _ _ (by decide), zup_i _ _ _ (by decide), zup_s]
  have d114 : D0 114 n = X := by rw [← hD0, zup_i _ _ _ (by decide), zup_i _ _ _ (by decide), zup_i _ _ _ (by decide), zup_i _ _ _ (by decide), zup_s]
  have d115 : D0 115 n = y := by rw [← hD0, zup_i _ _ _ (by decide), zup_i _ _ _ (by decide), zup_i _ _ _ (by decide), zup_s]
  have d116 : D0 116 n = z := by rw [← hD0, zup_i _ _ _ (by decide), zup_i _ _ _ (by decide), zup_s]
  have d117 : D0 117 n = u := by rw [← hD0, zup_i _ _ _ (by decide), zup_s]
  have c0 : ∀ i k, ¬ (i = 1 ∧ k = 0) → ¬ (i = 2 ∧ k = n) → C0 i k = c i k := fun i k h1 h2 => by
    rw [← hC0, zup_at, if_neg h1, zup_at, if_neg h2]
  have c1 : C0 1 0 = c 1 0 + 1 := by rw [← hC0, zup_s]
  have c2 : C0 2 n = K := by rw [← hC0, zup_i _ _ _ (by decide), zup_s]
  have dc : ∀ i k, ¬ (i = 1 ∧ k = 0) → ¬ (i = 111 ∧ (k = 12 ∨ k = 13)) → i ≠ 33 → ¬ (k = n ∧ ((2 ≤ i ∧ i ≤ 9) ∨ (114 ≤ i ∧ i ≤ 117))) → D0 i k = c i k := fun i k h1 h2 h3 h4 => by
    rw [d0 i k h2 (by omega), hA i k h1 (by omega) h3]
  have hAc : zAc D0 (n + 1) := by
    have g5' : zAc c n := by have := g5; unfold zI5 at this; rwa [hn] at this
    exact add_ok g5' (fun k hk => dc 114 k (by omega) (by omega) (by omega) (by omega)) (funext fun k => dc 118 k (by omega) (by omega) (by omega) (by omega)) (funext fun k => dc 120 k (by omega) (by omega) (by omega) (by omega)) (g2b n (by omega)).2.1
  have hGr : zGr C0 D0 (n + 1) := by
    refine ⟨by rw [c1, ← ns, zn_nI (by omega)], by rw [d13, zn_nI (by omega)], by omega, fun k hk => ?_, fun k hk => ?_, fun k hk i hi => ?_⟩
    · by_cases e : k = n
      · subst e
        rw [c2, d114]
        rcases hKX with ⟨a, b⟩ | ⟨a, b⟩ | ⟨a, b⟩ | ⟨a, b⟩ | ⟨a, b⟩ <;> rw [a, b] <;> decide
      · rw [c0 2 k (by omega) (by omega), dc 114 k (by omega) (by omega) (by omega) (by omega)]
        rcases (g2 k (by omega)).1 with ⟨a, b⟩ | ⟨a, b⟩ | ⟨a, b⟩ | ⟨a, b⟩ | ⟨a, b⟩ <;> rw [a, b] <;> decide
    · rw [c0 10 k (by omega) (by omega), dc 120 k (by omega) (by omega) (by omega) (by omega)]
      by_cases e : k = n
      · obtain ⟨_, b2, b3⟩ := g2b k (by omega)
        rw [b2, b3]; exact ⟨rfl, by decide⟩
      · exact ⟨(g3 k (by omega)).1, (g3 k (by omega)).2.1⟩
    · rw [c0 10 k (by omega) (by omega)] at hi
      by_cases e : k = n
      · rw [(g2b k (by omega)).2.2] at hi; exact absurd hi (Nat.not_lt_zero _)
      · have h9 := (g3 k (by omega)).2.2 i hi
        rw [c0 (12 + k) i (by omega) (by omega), dc 118 _ (by omega) (by omega) (by omega) (by omega)]
        exact ⟨h9.1, by omega⟩
  have hOr := arr_lays hGr hAc
  have o2 : ∀ i k, i ≠ 121 → i ≠ 123 → m_X7_lays D0 i k = D0 i k := fun i k h1 h2 => by rw [hOr.o2 i h1 h2]
  refine ⟨by rw [o2 111 12 (by decide) (by decide), d12], by rw [ns]; exact Int32.add_sub_cancel _ _, ?_⟩
  have L1 : m_X7_lays D0 1 0 = nI (n + 1) := by rw [o2 1 0 (by decide) (by decide), d0 1 0 (by omega) (by omega), hA1, ns]
  refine add_fin hI hn h10 L1 (by rw [o2 111 13 (by decide) (by decide), d13]) (fun i k hr h1 h2 h3 h4 h5 => ?_) ?_ ?_ (hAc.congr (hOr.o2 _ (by decide) (by decide)) (hOr.o2 _ (by decide) (by decide)) (hOr.o2 _ (by decide) (by decide))) hg hw
  · have hr' : (i < 70 ∨ 106 ≤ i) ∧ i ≠ 108 ∧ i ≠ 109 ∧ i ≠ 113 ∧ i ≠ 123 ∧ ¬ (i = 111 ∧ k = 12) ∧ (i = 112 → k < 704) := hr
    rw [o2 i k h4 (by omega), dc i k h1 (by omega) h3 h5]
  · have rA : ∀ i, 2 ≤ i → i ≤ 9 → m_X7_lays D0 i n = A i n := fun i h1 h2 => by rw [o2 i n (by omega) (by omega), d0 i n (by omega) (by omega)]
    rw [rA 2 (by omega) (by omega), rA 3 (by omega) (by omega), rA 4 (by omega) (by omega), rA 5 (by omega) (by omega), rA 6 (by omega) (by omega), rA 7 (by omega) (by omega), rA 8 (by omega) (by omega), rA 9 (by omega) (by omega), o2 114 n (by decide) (by decide), o2 115 n (by decide) (by decide), o2 116 n (by decide) (by decide), o2 117 n (by decide) (by decide), d114, d115, d116, d117, hA2]
    refine ⟨hKX, ⟨fun q => absurd q hX0, fun q => absurd q n0⟩, p1, fun q => ?_, p3, p4⟩
    obtain ⟨a1, a2, a3, a4⟩ := p2 q
    rw [← a1]; exact ⟨rfl, a2, a3, a4⟩
  · refine or_I4 hOr (by rw [L1, zn_nI (by omega)]) ?_ rfl (hOr.o2 _ (by decide) (by decide)) ?_ (fun k hk => ?_)
    · rw [hOr.o2 33 (by decide) (by decide), ← hA33]
      exact funext fun k => d0 33 k (by omega) (by omega)
    · rw [hOr.o2 10 (by decide) (by decide)]
      exact funext fun k => by rw [dc 10 k (by omega) (by omega) (by omega) (by omega), c0 10 k (by omega) (by omega)]
    · rw [hOr.o2 (12 + k) (by omega) (by omega)]
      exact funext fun q => by rw [dc (12 + k) q (by omega) (by omega) (by omega) (by omega), c0 (12 + k) q (by omega) (by omega)]
