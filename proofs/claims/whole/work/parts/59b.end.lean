/-- the voices of both sides, their clocks -/
def zJ (ea : Nat → Nat → Int32) (T : Nat) (C R : Nat → Nat → Int32) : Prop := zVo 34 C ea (R 112) (zn (R 111 21)) ∧ C 35 1 = R 111 21 ∧ zLv T (R 112)
section
variable {ea C R : Nat → Nat → Int32} {T : Nat}
theorem zJ.step (h : zJ ea T C R) {v : Nat} (hv : v < 4) (h0 : ¬ C (34 + 3 + 2 * v) 0 = 0) (h1 : C (34 + 3 + 2 * v) 1 = 0) (hb : zn (R 111 21) + 1 < 2 ^ 31) (hT : T < 2 ^ 30) : zJ ea T (m_X1_releaseNote C ea 34 v) (m_X7_releases R v) := by
  obtain ⟨g1, g2, g3⟩ := h
  have ec : zn (m_X7_releases R v 111 21) = zn (R 111 21) + 1 := by rw [releases_calls, zn_add (N := zn (R 111 21) + 1) (Nat.lt_succ_self _) hb]
  refine ⟨fun u hu => ?_, ?_, g3.releases v⟩
  · rw [ec]
    by_cases e : u = v
    · subst e
      exact (g1 u hu).release h0 h1 (fun k => by rw [zup_i _ _ _ (by omega)]) (g3 u hu).2.1 hT (by show C 35 1 + 1 = _; rw [g2]) rfl
    · have e1 : m_X1_releaseNote C ea 34 v (34 + 3 + 2 * u) = C (34 + 3 + 2 * u) := funext fun k => by
        unfold m_X1_releaseNote
        rw [crelease_o _ _ _ _ _ (by omega), zup_i _ _ _ (by omega)]
      rw [e1]
      exact ((g1 u hu).congr (fun q hq => releases_o R v (by omega) (fun _ q2 hq2 => by omega))).mono (by omega)
  · unfold m_X1_releaseNote
    rw [crelease_o _ _ _ _ _ (by omega), zup_s, releases_calls]
    show C 35 1 + 1 = _
    rw [g2]
theorem zJ.held (h : zJ ea T C R) {v : Nat} (hv : v < 4) : (m_X7_isHeld R v = 0 ∧ (C (34 + 3 + 2 * v) 0 = 0 ∨ (¬ C (34 + 3 + 2 * v) 0 = 0 ∧ ¬ C (34 + 3 + 2 * v) 1 = 0))) ∨ (m_X7_isHeld R v = 1 ∧ ¬ C (34 + 3 + 2 * v) 0 = 0 ∧ C (34 + 3 + 2 * v) 1 = 0) := by
  have V := h.1 v hv
  unfold m_X7_isHeld
  rw [V.plays]
  by_cases h0 : C (34 + 3 + 2 * v) 0 = 0
  · left; rw [if_pos h0]; exact ⟨rfl, Or.inl h0⟩
  · rw [if_neg h0]
    obtain ⟨a1, a2, _⟩ := V.2.2 (V.on h0).2
    dsimp only at a1 a2
    unfold m_X7_at
    rw [← a1]
    by_cases h1 : C (34 + 3 + 2 * v) 1 = 0
    · right; rw [if_pos h1]; exact ⟨rfl, h0, h1⟩
    · left; rw [if_neg h1]; exact ⟨rfl, Or.inr ⟨h0, h1⟩⟩
theorem holds_any (C ea : Nat → Nat → Int32) (v : Nat) : m_X5_holds C ea 34 v (-1) = if C (34 + 3 + 2 * v) 0 = 0 then 0 else if C (34 + 3 + 2 * v) 1 = 0 then 1 else 0 := by
  unfold m_X5_holds
  split
  · rfl
  · split
    · exact if_pos rfl
    · rfl
end
theorem pP_endAll : zP_endAll zInv := by
  intro j c w en ea hI hj hF6 hg6 hF7 hg7
  have hI' := hI
  obtain ⟨g0, g1, g2, g2b, g3, g4, g5, g8, g9, g10, g11, g12, g13⟩ := hI'
  have h10 := g1.2.2.1
  have hb := g13.2.1
  -- both loops, side by side
  have key : ∀ (n i : Nat) (x : Int32) (C R : Nat → Nat → Int32), i + n = 4 → zJ ea (4000 * j) C R → zn (R 111 21) + n ≤ 4 * j + 4 → (∀ i k, ¬ (i = 35 ∧ k = 1) → ¬ (37 ≤ i ∧ i ≤ 43) → C i k = c i k) → (∀ i k, ¬ (i = 111 ∧ k = 21) → (i = 112 → ¬ (640 ≤ k ∧ k < 704)) → (∃ D : Nat → Nat → Int32, D = D) → True) →
      ∀ (R0 c9 : Nat → Nat → Int32), (∀ i k, ¬ (i = 111 ∧ k = 21) → (i = 112 → ¬ (640 ≤ k ∧ k < 704)) → R i k = R0 i k) →
      ∃ (x' : Int32) (C' R' : Nat → Nat → Int32), g1_X1_releaseEach c9 ea 34 n i x C (fun _ x c1 => (x, c1)) = (x', C') ∧ (∀ R9, g1_X7_endAll R9 n i x R (fun _ x c1 => ((m_X7_plain c1 x).1, (m_X7_plain c1 x).2)) = (x', zup R' 111 12 0)) ∧ zJ ea (4000 * j) C' R' ∧ zn (R' 111 21) ≤ 4 * j + 4 ∧ (∀ i k, ¬ (i = 35 ∧ k = 1) → ¬ (37 ≤ i ∧ i ≤ 43) → C' i k = c i k) ∧ (∀ i k, ¬ (i = 111 ∧ k = 21) → (i = 112 → ¬ (640 ≤ k ∧ k < 704)) → R' i k = R0 i k) := by
    intro n
    induction n with
    | zero =>
      intro i x C R _ hJ hm hC _ R0 c9 hR
      exact ⟨x, C, R, rfl, fun _ => rfl, hJ, by omega, hC, hR⟩
    | succ n ih =>
      intro i x C R hi hJ hm hC hd R0 c9 hR
      have hv : i < 4 := by omega
      rcases hJ.held hv with ⟨k1, k2⟩ | ⟨k1, k2, k3⟩
      · have kh : m_X5_holds C ea 34 i (-1) = 0 := by
          rw [holds_any]
          rcases k2 with k2 | ⟨k2, k3⟩
          · rw [if_pos k2]
          · rw [if_neg k2, if_neg k3]
        obtain ⟨x', C', R', e1, e2, e3⟩ := ih (i + 1) x C R (by omega) hJ (by omega) hC hd R0 c9 hR
        refine ⟨x', C', R', ?_, fun R9 => ?_, e3⟩
        · rw [g1_X1_releaseEach, if_pos kh]; exact e1
        · rw [g1_X7_endAll, if_pos k1]; exact e2 R9
      · have kh : ¬ m_X5_holds C ea 34 i (-1) = 0 := by
          rw [holds_any, if_neg k2, if_pos k3]; decide
        have ec : zn (m_X7_releases R i 111 21) = zn (R 111 21) + 1 := by rw [releases_calls, zn_add (N := zn (R 111 21) + 1) (Nat.lt_succ_self _) (by omega)]
        obtain ⟨x', C', R', e1, e2, e3⟩ := ih (i + 1) (x + 1) (m_X1_releaseNote C ea 34 i) (m_X7_releases R i) (by omega) (hJ.step hv k2 k3 (by omega) (by omega)) (by omega)
          (fun i' k' a1 a2 => by
            unfold m_X1_releaseNote
            rw [crelease_o _ _ _ _ _ (by omega), zup_at, if_neg (by omega)]
            exact hC i' k' a1 a2) hd R0 c9
          (fun i' k' a1 a2 => by
            rw [releases_o R i a1 (fun e q hq => by have := a2 e; omega)]
            exact hR i' k' a1 a2)
        refine ⟨x', C', R', ?_, fun R9 => ?_, e3⟩
        · rw [g1_X1_releaseEach, if_neg kh]; exact e1
        · rw [g1_X7_endAll, if_neg (show ¬ m_X7_isHeld R i = 0 by rw [k1]; decide)]; exact e2 R9
  -- the class's loop alone
  obtain ⟨x1, C1, R1, e1, _, _, _, eC, _⟩ := key 4 0 0 c c (by omega) ⟨g10, g9.2.2.2.2.2.2.2.2.2.2.symm, g13.2.2⟩ (by omega) (fun _ _ _ _ => rfl) (fun _ _ _ _ _ => trivial) c c (fun _ _ _ _ => rfl)
  have hM6 : m_X6_endAll c ea = (x1, C1) := e1
  -- the reference's, from there
  obtain ⟨x2, C2, R2, f1, f2, f3, f4, _, f5⟩ := key 4 0 0 c C1 (by omega) ⟨by rw [show C1 112 = c 112 from funext fun k => eC 112 k (by omega) (by omega), eC 111 21 (by omega) (by omega)]; exact g10, by rw [eC 111 21 (by omega) (by omega)]; exact g9.2.2.2.2.2.2.2.2.2.2.symm, by rw [show C1 112 = c 112 from funext fun k => eC 112 k (by omega) (by omega)]; exact g13.2.2⟩ (by rw [eC 111 21 (by omega) (by omega)]; omega) (fun _ _ _ _ => rfl) (fun _ _ _ _ _ => trivial) C1 c (fun _ _ _ _ => rfl)
  have e12 : (x1, C1) = (x2, C2) := e1.symm.trans f1
  have ex : x1 = x2 := congrArg Prod.fst e12
  have eC12 : C1 = C2 := congrArg Prod.snd e12
  subst ex
  subst eC12
  have hM7 : m_X7_endAll C1 = (x1, zup R2 111 12 0) := f2 C1
  rw [hM6] at hg7 ⊢; dsimp only at hg7 ⊢; rw [hM7] at hg7 ⊢; dsimp only at hg7 ⊢
  have H : ∀ i k, ¬ (i = 35 ∧ k = 1) → ¬ (37 ≤ i ∧ i ≤ 43) → ¬ (i = 111 ∧ (k = 12 ∨ k = 21)) → (i = 112 → ¬ (640 ≤ k ∧ k < 704)) → zup R2 111 12 0 i k = c i k := fun i k a1 a2 a3 a4 => by
    rw [zup_at, if_neg (by omega), f5 i k (by omega) a4, eC i k a1 a2]
  refine ⟨rfl, hg7, g1.congr (fun i k h => H i k (by omega) (by omega) (by omega) (by omega)), g2.congr (fun i k h => H i k (by omega) (by omega) (by omega) (by omega)), g2b.congr (fun i k h => H i k (by omega) (by omega) (by omega) (by omega)), g3.congr h10 (fun i k h => H i k (by omega) (by omega) (by omega) (by omega)), g4.congr h10 (fun i k h => H i k (by omega) (by omega) (by omega) (by omega)), g5.congr (fun i k h => H i k (by omega) (by omega) (by omega) (by omega)), g8.congr (fun i k h => H i k (by omega) (by omega) (by omega) (by omega)) ⟨rfl, rfl⟩, ?_, ?_, ?_, g12.congr (fun i k h => H i k (by omega) (by omega) (by omega) (by omega)), ?_⟩
  · obtain ⟨a1, a2, a3, a4, a5, a6, a7, a8, a9, a10, a11⟩ := g9
    unfold zE9
    rw [H 111 15 (by omega) (by omega) (by omega) (by omega), H 111 16 (by omega) (by omega) (by omega) (by omega), H 111 17 (by omega) (by omega) (by omega) (by omega), H 111 18 (by omega) (by omega) (by omega) (by omega), H 111 19 (by omega) (by omega) (by omega) (by omega), H 111 20 (by omega) (by omega) (by omega) (by omega), H 0 6 (by omega) (by omega) (by omega) (by omega), H 35 2 (by omega) (by omega) (by omega) (by omega)]
    refine ⟨a1, a2, a3, a4, a5, a6, a7, a8, a9, a10, ?_⟩
    rw [zup_k _ _ (by decide), zup_i _ _ _ (by decide), f5 35 1 (by omega) (by omega)]
    exact f3.2.1.symm
  · rw [zup_k _ _ (by decide), zup_i _ _ _ (show 112 ≠ 111 by decide)]
    refine zVo.congr (c := C1) (fun v hv => ?_) (fun _ _ => rfl) (fun _ _ _ => rfl) f3.1
    rw [zup_i _ _ _ (by omega)]
    exact funext fun k => f5 _ k (by omega) (by omega)
  · exact g11.congr h10 (H 1 0 (by omega) (by omega) (by omega) (by omega)) (funext fun k => H 114 k (by omega) (by omega) (by omega) (by omega)) (funext fun k => H 4 k (by omega) (by omega) (by omega) (by omega)) (fun i hi => funext fun k => H i k (by omega) (by omega) (by omega) (by omega)) (fun q _ => H 112 q (by omega) (by omega) (by omega) (by omega))
  · refine ⟨?_, ?_, ?_⟩
    · rw [H 111 22 (by omega) (by omega) (by omega) (by omega)]; have := g13.1; omega
    · rw [zup_k _ _ (by decide)]; omega
    · rw [zup_i _ _ _ (by decide)]; exact f3.2.2.mono (by omega)
