/-- the state with delay nd's line as after i samples -/
def fdl (C : Nat → Nat → Int32) (o nd i : Nat) (R : Nat → Nat → Int32) (x q : Nat) : Int32 := if x = o + 25 + nd ∧ q < 60 then R i (60 * nd + q) else C x q
theorem fdl_o {C : Nat → Nat → Int32} {o nd i : Nat} {R : Nat → Nat → Int32} {x : Nat} (h : x ≠ o + 25 + nd) : fdl C o nd i R x = C x := funext fun q => if_neg (by omega)
section
variable {c C : Nat → Nat → Int32} {o nd z : Nat} {R : Nat → Nat → Int32}
theorem feed_ok (ho : 34 ≤ o) (hg : zCg c C) (h3 : zI3 c) (hn : nd < zn (c 1 0)) (h10 : zn (c 1 0) ≤ 10) (h : zDl c R nd z) (h1 : zn (R 0 (600 + nd)) < zn (c 4 nd)) (h60 : zn (c 4 nd) ≤ 60) (hin : ∀ k, k < zn (c 1 0) → ∀ i, i < z → C (o + 12 + k) i = R (i + 1) (630 + k)) (hx : C (o + 35) nd = R 0 (600 + nd)) (hl : ∀ q, q < 60 → C (o + 25 + nd) q = R 0 (60 * nd + q)) : m_X4_feedDelay C o nd z = zup (fdl C o nd z R) (o + 35) nd (R z (600 + nd)) := by
  have g : ∀ (n i : Nat), i + n = z → g1_X4_feedDelay C o nd z n i (R i (600 + nd)) (fdl C o nd i R) (fun _ x c1 => zup c1 (o + 35) nd x) = zup (fdl C o nd z R) (o + 35) nd (R z (600 + nd)) := by
    intro n
    induction n with
    | zero => intro i hi; rw [show z = i by omega]; rfl
    | succ n ih =>
      intro i hi
      have hlt := dl_lt h h1 h60 i (by omega)
      have hin2 : m_X4_inputAt (fdl C o nd i R) o nd i = inp c (R (i + 1)) nd := inAt_eq (fun x hx => (fdl_o (by omega)).trans (hg x hx)) h3 hn h10 (fun q hq => by
        have hs := ((h3 nd hn).2.2 q hq).2.2
        rw [fdl_o (by omega)]
        exact hin _ hs i (by omega))
      obtain ⟨d1, d2, d3⟩ := h i (by omega)
      have hst : zup (fdl C o nd i R) (o + 25 + nd) (zn (R i (600 + nd))) (r_X6_cut (inp c (R (i + 1)) nd + r_X6_partOf (C (o + 12 + nd) i) (C 5 nd))) = fdl C o nd (i + 1) R := funext fun x => funext fun q => by
        rw [zup_at, cut_eq, hin nd hn i (by omega), hg 5 (by decide)]
        unfold fdl
        by_cases e : x = o + 25 + nd ∧ q = zn (R i (600 + nd))
        · rw [if_pos e, if_pos (by omega), d3 q (by omega), if_pos e.2]; rfl
        · rw [if_neg e]
          by_cases e2 : x = o + 25 + nd ∧ q < 60
          · rw [if_pos e2, if_pos e2, d3 q e2.2, if_neg (fun e3 => e ⟨e2.1, e3⟩)]
          · rw [if_neg e2, if_neg e2]
      rw [g1_X4_feedDelay, hin2, hst, next_ok (c := c) hlt h60 (by rw [fdl_o (by omega), hg 4 (by decide)]), ← d2]
      exact ih (i + 1) (by omega)
  have h9 := g z 0 (by omega)
  have e0 : fdl C o nd 0 R = C := funext fun x => funext fun q => by
    unfold fdl
    by_cases e : x = o + 25 + nd ∧ q < 60
    · rw [if_pos e, e.1, hl q e.2]
    · rw [if_neg e]
  rw [e0] at h9
  unfold m_X4_feedDelay
  rw [hx]
  exact h9
end
theorem zsm_succ (f : Nat → Int32) : ∀ (n i : Nat) (x : Int32), zsm f (n + 1) i x = zsm f n i x + f (i + n) := by
  intro n
  induction n with
  | zero => intro i x; rfl
  | succ n ih =>
    intro i x
    rw [zsm, ih, zsm, show i + 1 + n = i + (n + 1) by omega]
/-- a voice's part of a block -/
theorem adds_ok {ea : Nat → Nat → Int32} {o v nd z T m0 : Nat} {P : Nat → Nat → Int32} (hv : v < 4) (hS : ∀ i, i < z → ∀ q, q < 16 → P (i + 1) q = sgc (P i) q) (hL : ∀ i, i ≤ z → zn (P i 10) ≤ T) (hT : T < 2 ^ 30) (cc : Nat → Nat → Int32) : ∀ (n i : Nat) (c1 : Nat → Nat → Int32), i + n = z → zVp (c1 (o + 3 + 2 * v)) (ea (o + 3 + 2 * v)) (P i) m0 → (∀ x q, x ≠ o + 3 + 2 * v → ¬ (x = o + 12 + nd ∧ i ≤ q ∧ q < z) → g1_X5_addSamples cc ea o v nd z n i c1 (fun _ c1 => c1) x q = c1 x q) ∧ (∀ q, i ≤ q → q < z → g1_X5_addSamples cc ea o v nd z n i c1 (fun _ c1 => c1) (o + 12 + nd) q = c1 (o + 12 + nd) q + sgv (P q)) ∧ zVp (g1_X5_addSamples cc ea o v nd z n i c1 (fun _ c1 => c1) (o + 3 + 2 * v)) (ea (o + 3 + 2 * v)) (P z) m0 := by
  intro n
  induction n with
  | zero => intro i c1 hi h; refine ⟨fun _ _ _ _ => rfl, fun q h1 h2 => by omega, ?_⟩
            rw [show z = i by omega]; exact h
  | succ n ih =>
    intro i c1 hi h
    rw [g1_X5_addSamples]
    by_cases h0 : c1 (o + 3 + 2 * v) 0 = 0
    · rw [if_pos h0]
      have off : ∀ d, i + d ≤ z → ∀ q, q < 16 → P (i + d) q = P i q := by
        intro d
        induction d with
        | zero => intro _ q _; rfl
        | succ d ihd =>
          intro hd q hq
          have e := ihd (by omega)
          have np : ¬ P (i + d) 0 = 1 := by rw [e 0 (by decide), ← h.1, h0]; decide
          rw [show i + (d + 1) = i + d + 1 by omega, hS (i + d) (by omega) q hq, sgc_off np, e q hq]
      refine ⟨fun _ _ _ _ => rfl, fun q h1 h2 => ?_, ?_⟩
      · have np : ¬ P q 0 = 1 := by
          have := off (q - i) (by omega) 0 (by decide)
          rw [show i + (q - i) = q by omega] at this
          rw [this, ← h.1, h0]; decide
        rw [sgv_off np, Int32.add_zero]
      · have := off (z - i) (by omega)
        rw [show i + (z - i) = z by omega] at this
        exact h.congr (fun q hq => this q hq)
    · rw [if_neg h0]
      have hval := zVp.val h h0 (hL i (by omega)) hT
      rw [hval]
      generalize hc2 : zup c1 (o + 12 + nd) i (c1 (o + 12 + nd) i + sgv (P i)) = c2
      have r2 : c2 (o + 3 + 2 * v) = c1 (o + 3 + 2 * v) := by rw [← hc2]; exact zup_i _ _ _ (by omega)
      have h2 : zVp (c2 (o + 3 + 2 * v)) (ea (o + 3 + 2 * v)) (P i) m0 := by rw [r2]; exact h
      have hm := zVp.move h2 (by rw [r2]; exact h0)
      obtain ⟨a1, a2, a3⟩ := ih (i + 1) (m_X5_moveOn c2 ea o v) (by omega) (hm.congr (fun q hq => hS i (by omega) q hq))
      refine ⟨fun x q hx hq => ?_, fun q h3 h4 => ?_, a3⟩
      · rw [a1 x q hx (by omega), moveOn_o hx, ← hc2, zup_at, if_neg (by omega)]
      · by_cases e : q = i
        · subst e
          rw [a1 _ _ (by omega) (by omega), moveOn_o (by omega), ← hc2, zup_s]
        · rw [a2 q (by omega) h4, moveOn_o (by omega), ← hc2, zup_k _ _ e]
theorem fv1_ok (C : Nat → Nat → Int32) (ea : Nat → Nat → Int32) (o nd z : Nat) (K : Nat → (Nat → Nat → Int32) → (Nat → Nat → Int32)) : ∀ (n i : Nat) (c1 : Nat → Nat → Int32), i + n = z → ∃ D, g1_X4_findVoices C ea o nd z n i c1 K = K z D ∧ ∀ x q, D x q = if x = o + 12 + nd ∧ i ≤ q ∧ q < z then 0 else c1 x q := by
  intro n
  induction n with
  | zero => intro i c1 hi; exact ⟨c1, by rw [show z = i by omega]; rfl, fun x q => by rw [if_neg (by omega)]⟩
  | succ n ih =>
    intro i c1 hi
    obtain ⟨D, e, h⟩ := ih (i + 1) (zup c1 (o + 12 + nd) i 0) (by omega)
    refine ⟨D, by rw [g1_X4_findVoices, e], fun x q => ?_⟩
    rw [h, zup_at]
    by_cases a : x = o + 12 + nd ∧ i ≤ q ∧ q < z
    · rw [if_pos a]
      by_cases b : q = i
      · rw [if_neg (by omega), if_pos ⟨a.1, b⟩]
      · rw [if_pos (by omega)]
    · rw [if_neg a, if_neg (by omega), if_neg (by omega)]
theorem fv3_ok (C : Nat → Nat → Int32) (ea : Nat → Nat → Int32) (o nd z : Nat) : ∀ (n i : Nat) (c1 : Nat → Nat → Int32), i + n = z → ∀ x q, g3_X4_findVoices C ea o nd z n i c1 (fun _ c3 => c3) x q = if x = o + 12 + nd ∧ i ≤ q ∧ q < z then r_X6_cut (c1 x q) else c1 x q := by
  intro n
  induction n with
  | zero => intro i c1 hi x q; rw [if_neg (by omega)]; rfl
  | succ n ih =>
    intro i c1 hi x q
    rw [g3_X4_findVoices, ih (i + 1) _ (by omega), zup_at]
    by_cases a : x = o + 12 + nd ∧ i ≤ q ∧ q < z
    · rw [if_pos a]
      by_cases b : q = i
      · rw [if_neg (by omega), if_pos ⟨a.1, b⟩, a.1, b]
      · rw [if_pos (by omega), if_neg (by omega)]
    · rw [if_neg a, if_neg (by omega), if_neg (by omega)]
theorem voices_ok {c C ea : Nat → Nat → Int32} {o nd z T m0 : Nat} {R : Nat → Nat → Int32} (hS : ∀ i, i < z → ∀ v, v < 4 → ∀ q, q < 16 → R (i + 1) (640 + 16 * v + q) = sgc (fun q => R i (640 + 16 * v + q)) q) (hL : ∀ i, i ≤ z → ∀ v, v < 4 → zn (R i (640 + 16 * v + 10)) ≤ T) (hT : T < 2 ^ 30) (hf : ∀ i, i < z → fml c (R i) (R (i + 1)) nd) (hk : c 114 nd = 0) (hV : zVo o C ea (R 0) m0) : (∀ x q, ¬ (∃ v, v < 4 ∧ x = o + 3 + 2 * v) → m_X4_findVoices C ea o nd z x q = bst C o nd z R x q) ∧ zVo o (m_X4_findVoices C ea o nd z) ea (R z) m0 := by
  unfold m_X4_findVoices
  obtain ⟨D, e, hD⟩ := fv1_ok C ea o nd z (fun _ c1 => g2_X4_findVoices C ea o nd z 4 0 c1 (fun _ c2 => g3_X4_findVoices C ea o nd z z 0 c2 (fun _ c3 => c3))) z 0 C (by omega)
  rw [e]
  have g : ∀ (n v : Nat) (c2 : Nat → Nat → Int32), v + n = 4 → (∀ x q, (∀ u, u < 4 → x ≠ o + 3 + 2 * u) → ¬ (x = o + 12 + nd ∧ q < z) → c2 x q = C x q) → (∀ q, q < z → c2 (o + 12 + nd) q = zsm (fun u => sgv (fun p => R q (640 + 16 * u + p))) v 0 0) → (∀ u, u < v → zVp (c2 (o + 3 + 2 * u)) (ea (o + 3 + 2 * u)) (fun q => R z (640 + 16 * u + q)) m0) → (∀ u, v ≤ u → u < 4 → c2 (o + 3 + 2 * u) = C (o + 3 + 2 * u)) → ∃ D2, g2_X4_findVoices C ea o nd z n v c2 (fun _ c2 => g3_X4_findVoices C ea o nd z z 0 c2 (fun _ c3 => c3)) = g3_X4_findVoices C ea o nd z z 0 D2 (fun _ c3 => c3) ∧ (∀ x q, (∀ u, u < 4 → x ≠ o + 3 + 2 * u) → ¬ (x = o + 12 + nd ∧ q < z) → D2 x q = C x q) ∧ (∀ q, q < z → D2 (o + 12 + nd) q = sgs (R q)) ∧ (∀ u, u < 4 → zVp (D2 (o + 3 + 2 * u)) (ea (o + 3 + 2 * u)) (fun q => R z (640 + 16 * u + q)) m0) := by
    intro n
    induction n with
    | zero => intro v c2 hv a1 a2 a3 _; have e4 : v = 4 := by omega
              subst e4; exact ⟨c2, rfl, a1, a2, a3⟩
    | succ n ih =>
      intro v c2 hv a1 a2 a3 a4
      have hv4 : v < 4 := by omega
      have hV1 : zVp (c2 (o + 3 + 2 * v)) (ea (o + 3 + 2 * v)) (fun q => R 0 (640 + 16 * v + q)) m0 := by rw [a4 v (Nat.le_refl _) hv4]; exact hV v hv4
      obtain ⟨b1, b2, b3⟩ := adds_ok (ea := ea) (o := o) (nd := nd) (z := z) (T := T) (m0 := m0) (P := fun i q => R i (640 + 16 * v + q)) hv4 (fun i hi q hq => hS i hi v hv4 q hq) (fun i hi => hL i hi v hv4) hT c2 z 0 c2 (by omega) hV1
      rw [g2_X4_findVoices]
      refine ih (v + 1) _ (by omega) (fun x q hx hq => ?_) (fun q hq => ?_) (fun u hu => ?_) (fun u h1 h2 => ?_)
      · exact (b1 x q (hx v hv4) (by omega)).trans (a1 x q hx hq)
      · rw [zsm_succ, ← a2 q hq, Nat.zero_add]
        exact b2 q (Nat.zero_le _) hq
      · by_cases e : u = v
        · subst e; exact b3
        · have : m_X5_addSamples c2 ea o v nd z (o + 3 + 2 * u) = c2 (o + 3 + 2 * u) := funext fun k => b1 _ k (by omega) (by omega)
          rw [this]; exact a3 u (by omega)
      · have : m_X5_addSamples c2 ea o v nd z (o + 3 + 2 * u) = c2 (o + 3 + 2 * u) := funext fun k => b1 _ k (by omega) (by omega)
        rw [this]; exact a4 u (by omega) h2
  obtain ⟨D2, e2, d1, d2, d3⟩ := g 4 0 D rfl (fun x q _ hq => by rw [hD, if_neg (by omega)]) (fun q hq => by rw [hD, if_pos ⟨rfl, Nat.zero_le _, hq⟩]; rfl) (fun u hu => by omega) (fun u _ h => funext fun q => by rw [hD, if_neg (by omega)])
  rw [e2]
  have f := fv3_ok C ea o nd z z 0 D2 (by omega)
  refine ⟨fun x q hx => ?_, fun u hu => ?_⟩
  · rw [f x q]
    unfold bst
    by_cases a : x = o + 12 + nd ∧ q < z
    · rw [if_pos a, if_pos ⟨a.1, Nat.zero_le _, a.2⟩, a.1, d2 q a.2, cut_eq]
      exact ((hf q a.2).2.2.2 hk).symm
    · rw [if_neg a, if_neg (by omega)]
      exact d1 x q (fun u hu e => hx ⟨u, hu, e⟩) a
  · have : g3_X4_findVoices C ea o nd z z 0 D2 (fun _ c3 => c3) (o + 3 + 2 * u) = D2 (o + 3 + 2 * u) := funext fun q => by rw [f, if_neg (by omega)]
    rw [this]
    exact d3 u hu
