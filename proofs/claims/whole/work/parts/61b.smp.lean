/-! one sample of the reference -/
def zsm (f : Nat → Int32) : Nat → Nat → Int32 → Int32
  | 0, _, x => x
  | n + 1, i, x => zsm f n (i + 1) (x + f i)
theorem zsm_cg {f g : Nat → Int32} : ∀ (n a b : Nat) (x : Int32), (∀ q, q < n → f (a + q) = g (b + q)) → zsm f n a x = zsm g n b x := by
  intro n
  induction n with
  | zero => intro a b x _; rfl
  | succ n ih =>
    intro a b x h
    rw [zsm, zsm, show f a = g b from h 0 (by omega)]
    exact ih (a + 1) (b + 1) _ (fun q hq => by have := h (q + 1) (by omega); rwa [show a + (q + 1) = a + 1 + q by omega, show b + (q + 1) = b + 1 + q by omega] at this)
/-- what comes in at node k by the outs of the row r -/
def inp (g : Nat → Nat → Int32) (r : Nat → Int32) (k : Nat) : Int32 := zsm (fun i => (r (630 + zn (g 118 i)) * g 119 i) / 100) (zn (g 120 k)) (4 * k) 0
theorem inp_of (c : Nat → Nat → Int32) (k : Nat) : m_X7_inputOf c k = inp c (c 112) k := by
  have g : ∀ (n i : Nat) (x : Int32), g1_X7_inputOf c k n i x (fun _ x => x) = zsm (fun i => (c 112 (630 + zn (c 118 i)) * c 119 i) / 100) n i x := by
    intro n
    induction n with
    | zero => intro i x; rfl
    | succ n ih => intro i x; rw [g1_X7_inputOf, zsm, ih]
  exact g _ _ _
theorem inp_cg {g : Nat → Nat → Int32} {r r' : Nat → Int32} {k : Nat} (h : ∀ i, i < zn (g 120 k) → r (630 + zn (g 118 (4 * k + i))) = r' (630 + zn (g 118 (4 * k + i)))) : inp g r k = inp g r' k := zsm_cg _ _ _ _ (fun q hq => by rw [h q hq])
theorem inp_g {g g' : Nat → Nat → Int32} (r : Nat → Int32) (k : Nat) (h1 : g' 118 = g 118) (h2 : g' 119 = g 119) (h3 : g' 120 = g 120) : inp g' r k = inp g r k := by unfold inp; rw [h1, h2, h3]
theorem cut_cut (x : Int32) : r_X7_cut (r_X7_cut x) = r_X7_cut x := by
  unfold r_X7_cut
  by_cases h1 : x ≤ 32767
  · rw [if_pos h1]
    by_cases h2 : -32767 ≤ x
    · rw [if_pos h2, if_pos h1, if_pos h2]
    · rw [if_neg h2, if_pos (show (-32767 : Int32) ≤ 32767 by decide), if_pos (show (-32767 : Int32) ≤ -32767 by decide)]
  · rw [if_neg h1, if_pos (show (32767 : Int32) ≤ 32767 by decide), if_pos (show (-32767 : Int32) ≤ 32767 by decide)]
theorem sgv_cg {p p' : Nat → Int32} (h : ∀ q, q < 16 → p q = p' q) : sgv p = sgv p' := by
  unfold sgv slv
  rw [h 0 (by decide), h 4 (by decide), h 9 (by decide), h 3 (by decide)]
  rw [lev_cg (c := fun _ q => p (q - 640)) (c' := fun _ q => p' (q - 640)) (v := 0) (v' := 0) (fun q hq => h _ (by omega))]
theorem sgc_cg {p p' : Nat → Int32} (h : ∀ q, q < 16 → p q = p' q) {q : Nat} (hq : q < 16) : sgc p q = sgc p' q := by
  unfold sgc sph
  rw [h 0 (by decide), h 1 (by decide), h 2 (by decide), h 8 (by decide), h 9 (by decide), h 10 (by decide), h 12 (by decide), h q hq]
def sgs (r : Nat → Int32) : Int32 := zsm (fun v => sgv (fun q => r (640 + 16 * v + q))) 4 0 0
theorem sung_is (c : Nat → Nat → Int32) : (m_X7_sung c).1 = sgs (c 112) ∧ (∀ i q, ¬ (i = 112 ∧ 640 ≤ q ∧ q < 704) → (m_X7_sung c).2 i q = c i q) ∧ ∀ v, v < 4 → ∀ q, q < 16 → (m_X7_sung c).2 112 (640 + 16 * v + q) = sgc (fun q => c 112 (640 + 16 * v + q)) q := by
  have g : ∀ (n i : Nat) (x : Int32) (c1 : Nat → Nat → Int32), i + n = 4 → (∀ v, i ≤ v → v < 4 → ∀ q, q < 16 → c1 112 (640 + 16 * v + q) = c 112 (640 + 16 * v + q)) → (g1_X7_sung c n i x c1 (fun _ x c1 => (x, c1))).1 = zsm (fun v => sgv (fun q => c 112 (640 + 16 * v + q))) n i x ∧ (∀ j q, ¬ (j = 112 ∧ 640 ≤ q ∧ q < 704) → (g1_X7_sung c n i x c1 (fun _ x c1 => (x, c1))).2 j q = c1 j q) ∧ (∀ v, i ≤ v → v < 4 → ∀ q, q < 16 → (g1_X7_sung c n i x c1 (fun _ x c1 => (x, c1))).2 112 (640 + 16 * v + q) = sgc (fun q => c 112 (640 + 16 * v + q)) q) ∧ ∀ q, q < 640 + 16 * i → (g1_X7_sung c n i x c1 (fun _ x c1 => (x, c1))).2 112 q = c1 112 q := by
    intro n
    induction n with
    | zero => intro i x c1 hi _; exact ⟨rfl, fun _ _ _ => rfl, fun v h1 h2 => by omega, fun _ _ => rfl⟩
    | succ n ih =>
      intro i x c1 hi h
      have ec : sgv (fun q => c1 112 (640 + 16 * i + q)) = sgv (fun q => c 112 (640 + 16 * i + q)) := sgv_cg (fun q hq => h i (Nat.le_refl _) (by omega) q hq)
      obtain ⟨a1, a2, a3, a4⟩ := ih (i + 1) (x + (m_X7_sings c1 i).1) ((m_X7_sings c1 i).2) (by omega) (fun v h1 h2 q hq => by
        rw [sings_o (by omega)]; exact h v (by omega) h2 q hq)
      rw [g1_X7_sung, zsm]
      refine ⟨by rw [a1, sings_1, ec], fun j q hq => by rw [a2 j q hq, sings_o (by omega)], fun v h1 h2 q hq => ?_, fun q hq => by rw [a4 q (by omega), sings_o (by omega)]⟩
      by_cases e : v = i
      · subst e
        rw [a4 _ (by omega), sings_c hq]
        exact sgc_cg (fun q hq => h v (Nat.le_refl _) h2 q hq) hq
      · exact a3 v (by omega) h2 q hq
  obtain ⟨a1, a2, a3, _⟩ := g 4 0 0 c rfl (fun _ _ _ _ _ => rfl)
  exact ⟨a1, a2, fun v hv => a3 v (Nat.zero_le _) hv⟩
/-- what a node that is no delay does with a sample -/
def fml (g : Nat → Nat → Int32) (r r' : Nat → Int32) (k : Nat) : Prop := (g 114 k = 1 → r' (630 + k) = r_X7_cut ((inp g r' k * g 115 k) / 100)) ∧ (g 114 k = 4 → r' (630 + k) = r_X7_cut (r_X7_limited (inp g r' k) (g 115 k))) ∧ (g 114 k = 3 → r' (610 + k) = inp g r' k ∧ r' (620 + k) = r_X7_cut ((((g 115 k * inp g r' k) + (g 116 k * r (610 + k))) + (g 117 k * r (620 + k))) / 64) ∧ r' (630 + k) = r' (620 + k)) ∧ (g 114 k = 0 → r' (630 + k) = r_X7_cut (sgs r))
theorem fml.cg {g : Nat → Nat → Int32} {r r1 r2 : Nat → Int32} {k : Nat} (h : fml g r r1 k) (hi : inp g r2 k = inp g r1 k) (e1 : r2 (630 + k) = r1 (630 + k)) (e2 : r2 (610 + k) = r1 (610 + k)) (e3 : r2 (620 + k) = r1 (620 + k)) : fml g r r2 k := by
  unfold fml at *
  rw [hi, e1, e2, e3]
  exact h
section
variable {C : Nat → Nat → Int32} {k : Nat}
def snx (C : Nat → Nat → Int32) (k : Nat) : Nat → Nat → Int32 := zup ((m_X7_sounds C k).2) 112 (630 + k) (r_X7_cut ((m_X7_sounds C k).1))
theorem snx_o (hk : k < 10) : (∀ x, x ≠ 112 → snx C k x = C x) ∧ (∀ q, q < 640 → q ≠ 610 + k → q ≠ 620 + k → q ≠ 630 + k → snx C k 112 q = C 112 q) ∧ (¬ C 114 k = 0 → ∀ q, 640 ≤ q → snx C k 112 q = C 112 q) ∧ (C 114 k = 0 → ∀ v, v < 4 → ∀ q, q < 16 → snx C k 112 (640 + 16 * v + q) = sgc (fun q => C 112 (640 + 16 * v + q)) q) := by
  obtain ⟨s1, s2, s3⟩ := sung_is C
  unfold snx m_X7_sounds
  by_cases h0 : C 114 k = 0
  · rw [if_pos h0]
    dsimp only
    refine ⟨fun x hx => ?_, fun q h1 _ _ h2 => ?_, fun h => absurd h0 h, fun _ v hv q hq => ?_⟩
    · rw [zup_i _ _ _ hx]; exact funext fun q => s2 x q (by omega)
    · rw [zup_k _ _ h2]; exact s2 112 q (by omega)
    · rw [zup_k _ _ (by omega)]; exact s3 v hv q hq
  · rw [if_neg h0]
    by_cases h3 : C 114 k = 3
    · rw [if_pos h3]
      unfold m_X7_filtered
      dsimp only
      refine ⟨fun x hx => ?_, fun q h1 h8 h9 h2 => ?_, fun _ q hq => ?_, fun h => absurd h h0⟩
      · rw [zup_i _ _ _ hx, zup_i _ _ _ hx, zup_i _ _ _ hx]
      · rw [zup_k _ _ h2, zup_k _ _ h9, zup_k _ _ h8]
      · rw [zup_k _ _ (by omega), zup_k _ _ (by omega), zup_k _ _ (by omega)]
    · rw [if_neg h3]
      by_cases h1 : C 114 k = 1
      · rw [if_pos h1]
        exact ⟨fun x hx => zup_i _ _ _ hx, fun q _ _ _ h2 => zup_k _ _ h2, fun _ q hq => zup_k _ _ (by omega), fun h => absurd h h0⟩
      · rw [if_neg h1]
        exact ⟨fun x hx => zup_i _ _ _ hx, fun q _ _ _ h2 => zup_k _ _ h2, fun _ q hq => zup_k _ _ (by omega), fun h => absurd h h0⟩
theorem snx_f (hk : k < 10) (hs : ∀ i, i < zn (C 120 k) → zn (C 118 (4 * k + i)) ≠ k ∧ zn (C 118 (4 * k + i)) < 10) : fml C (C 112) (snx C k 112) k := by
  have hi : inp C (snx C k 112) k = inp C (C 112) k := inp_cg (fun i hi => (snx_o hk).2.1 _ (by have := hs i hi; omega) (by have := hs i hi; omega) (by have := hs i hi; omega) (by have := hs i hi; omega))
  unfold fml
  rw [hi]
  refine ⟨fun h => ?_, fun h => ?_, fun h => ?_, fun h => ?_⟩
  · unfold snx m_X7_sounds
    rw [zup_s, if_neg (by rw [h]; decide), if_neg (by rw [h]; decide), if_pos h, inp_of]
  · unfold snx m_X7_sounds
    rw [zup_s, if_neg (by rw [h]; decide), if_neg (by rw [h]; decide), if_neg (by rw [h]; decide), inp_of]
  · unfold snx m_X7_sounds
    rw [if_neg (by rw [h]; decide), if_pos h]
    unfold m_X7_filtered
    dsimp only
    rw [inp_of]
    refine ⟨?_, ?_, ?_⟩
    · rw [zup_k _ _ (by omega), zup_k _ _ (by omega), zup_s]
    · rw [zup_k _ _ (by omega), zup_s]
    · rw [zup_s, zup_k _ _ (by omega), zup_s, cut_cut]
  · unfold snx m_X7_sounds
    rw [zup_s, if_pos h, (sung_is C).1]
end
