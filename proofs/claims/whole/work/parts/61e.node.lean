/-! a node's block on the class's side -/
theorem cut_eq (x : Int32) : r_X6_cut x = r_X7_cut x := by
  unfold r_X6_cut r_X7_cut zmax zmin
  by_cases h1 : x < 32767
  · rw [if_pos h1, if_pos (Int32.le_of_lt h1)]
    by_cases h2 : -32767 < x
    · rw [if_pos h2, if_pos (Int32.le_of_lt h2)]
    · rw [if_neg h2]
      by_cases h3 : -32767 ≤ x
      · rw [if_pos h3]; exact Int32.le_antisymm h3 (Int32.not_lt.mp h2)
      · rw [if_neg h3]
  · rw [if_neg h1, if_pos (show (-32767 : Int32) < 32767 by decide)]
    by_cases h2 : x ≤ 32767
    · have e : x = 32767 := Int32.le_antisymm h2 (Int32.not_lt.mp h1)
      rw [if_pos h2, e]
      rfl
    · rw [if_neg h2]
theorem lim_eq (x y : Int32) : r_X4_limited x y = r_X7_limited x y := by
  have e : zabs x = r_X7_size x := by
    unfold zabs r_X7_size
    by_cases h : 0 ≤ x
    · rw [if_pos h, if_pos h]
    · rw [if_neg h, if_neg h, Int32.zero_sub]
  unfold r_X4_limited r_X7_limited
  rw [e]
theorem inAt_of (C : Nat → Nat → Int32) (o nd i : Nat) : m_X4_inputAt C o nd i = zsm (fun k => r_X6_partOf (C (o + 12 + (zn (C (12 + nd) k))) i) (C (23 + nd) k)) (zn (C 10 nd)) 0 0 := by
  have g : ∀ (n k : Nat) (x : Int32), g1_X4_inputAt C o nd i n k x (fun _ x => x) = zsm (fun k => r_X6_partOf (C (o + 12 + (zn (C (12 + nd) k))) i) (C (23 + nd) k)) n k x := by
    intro n
    induction n with
    | zero => intro k x; rfl
    | succ n ih => intro k x; rw [g1_X4_inputAt, zsm, ih]
  exact g _ _ _
/-- the state with node nd's block right in its first i places -/
def bst (C : Nat → Nat → Int32) (o nd i : Nat) (R : Nat → Nat → Int32) (x q : Nat) : Int32 := if x = o + 12 + nd ∧ q < i then R (q + 1) (630 + nd) else C x q
theorem bst_0 (C : Nat → Nat → Int32) (o nd : Nat) (R : Nat → Nat → Int32) : bst C o nd 0 R = C := funext fun x => funext fun q => if_neg (by omega)
theorem bst_s (C : Nat → Nat → Int32) (o nd i : Nat) (R : Nat → Nat → Int32) : zup (bst C o nd i R) (o + 12 + nd) i (R (i + 1) (630 + nd)) = bst C o nd (i + 1) R := funext fun x => funext fun q => by
  rw [zup_at]
  unfold bst
  by_cases h : x = o + 12 + nd ∧ q = i
  · rw [if_pos h, if_pos (by omega), h.2]
  · rw [if_neg h]
    by_cases h2 : x = o + 12 + nd ∧ q < i
    · rw [if_pos h2, if_pos (by omega)]
    · rw [if_neg h2, if_neg (by omega)]
theorem bst_o {C : Nat → Nat → Int32} {o nd i : Nat} {R : Nat → Nat → Int32} {x : Nat} (h : x ≠ o + 12 + nd) : bst C o nd i R x = C x := funext fun q => if_neg (by omega)
section
variable {c C : Nat → Nat → Int32} {o nd z : Nat} {R : Nat → Nat → Int32}
/-- the graph's rows are the class's -/
def zCg (c C : Nat → Nat → Int32) : Prop := ∀ x, x < 34 → C x = c x
/-- what comes in is there -/
def zIn (c C : Nat → Nat → Int32) (o nd z : Nat) (R : Nat → Nat → Int32) : Prop := ∀ q, q < zn (c 10 nd) → zn (c (12 + nd) q) ≠ nd ∧ ∀ i, i < z → C (o + 12 + zn (c (12 + nd) q)) i = R (i + 1) (630 + zn (c (12 + nd) q))
theorem inAt_eq {r : Nat → Int32} {i : Nat} (hg : zCg c C) (h3 : zI3 c) (hn : nd < zn (c 1 0)) (h10 : zn (c 1 0) ≤ 10) (h : ∀ q, q < zn (c 10 nd) → C (o + 12 + zn (c (12 + nd) q)) i = r (630 + zn (c (12 + nd) q))) : m_X4_inputAt C o nd i = inp c r nd := by
  rw [inAt_of, hg 10 (by decide), hg (12 + nd) (by omega), hg (23 + nd) (by omega)]
  obtain ⟨a1, a2, a3⟩ := h3 nd hn
  unfold inp
  rw [a1]
  refine zsm_cg _ _ _ _ (fun q hq => ?_)
  obtain ⟨b1, b2, b3⟩ := a3 q hq
  rw [b1, b2, Nat.zero_add, h q hq]
  rfl
theorem bst_in {i : Nat} (ho : 34 ≤ o) (hg : zCg c C) (h3 : zI3 c) (hn : nd < zn (c 1 0)) (h10 : zn (c 1 0) ≤ 10) (hi : i < z) (h : zIn c C o nd z R) (j : Nat) : m_X4_inputAt (bst C o nd j R) o nd i = inp c (R (i + 1)) nd := by
  refine inAt_eq (fun x hx => (bst_o (by omega)).trans (hg x hx)) h3 hn h10 (fun q hq => ?_)
  obtain ⟨a1, a2⟩ := h q hq
  rw [bst_o (by omega)]
  exact a2 i hi
theorem gain_ok (ho : 34 ≤ o) (hg : zCg c C) (h3 : zI3 c) (hn : nd < zn (c 1 0)) (h10 : zn (c 1 0) ≤ 10) (h : zIn c C o nd z R) (hf : ∀ i, i < z → fml c (R i) (R (i + 1)) nd) (hk : c 114 nd = 1) (hp : c 115 nd = c 3 nd) : m_X4_findGain C o nd z = bst C o nd z R := by
  have g : ∀ (n i : Nat), i + n = z → g1_X4_findGain C o nd z n i (bst C o nd i R) (fun _ c1 => c1) = bst C o nd z R := by
    intro n
    induction n with
    | zero => intro i hi; rw [show z = i by omega]; rfl
    | succ n ih =>
      intro i hi
      rw [g1_X4_findGain, bst_in ho hg h3 hn h10 (by omega) h, hg 3 (by decide), cut_eq]
      have e := (hf i (by omega)).1 hk
      rw [hp] at e
      rw [show r_X7_cut (r_X6_partOf (inp c (R (i + 1)) nd) (c 3 nd)) = R (i + 1) (630 + nd) from e.symm, bst_s]
      exact ih (i + 1) (by omega)
  have h9 := g z 0 (by omega)
  rw [bst_0] at h9
  exact h9
theorem bus_ok (ho : 34 ≤ o) (hg : zCg c C) (h3 : zI3 c) (hn : nd < zn (c 1 0)) (h10 : zn (c 1 0) ≤ 10) (h : zIn c C o nd z R) (hf : ∀ i, i < z → fml c (R i) (R (i + 1)) nd) (hk : c 114 nd = 4) (hp : c 115 nd = c 9 nd) : m_X4_findBus C o nd z = bst C o nd z R := by
  have g : ∀ (n i : Nat), i + n = z → g1_X4_findBus C o nd z n i (bst C o nd i R) (fun _ c1 => c1) = bst C o nd z R := by
    intro n
    induction n with
    | zero => intro i hi; rw [show z = i by omega]; rfl
    | succ n ih =>
      intro i hi
      rw [g1_X4_findBus, bst_in ho hg h3 hn h10 (by omega) h, hg 9 (by decide), cut_eq, lim_eq]
      have e := (hf i (by omega)).2.1 hk
      rw [hp] at e
      rw [← e, bst_s]
      exact ih (i + 1) (by omega)
  have h9 := g z 0 (by omega)
  rw [bst_0] at h9
  exact h9
theorem filter_ok (ho : 34 ≤ o) (hg : zCg c C) (h3 : zI3 c) (hn : nd < zn (c 1 0)) (h10 : zn (c 1 0) ≤ 10) (h : zIn c C o nd z R) (hf : ∀ i, i < z → fml c (R i) (R (i + 1)) nd) (hk : c 114 nd = 3) (hp : c 115 nd = c 6 nd ∧ c 116 nd = c 7 nd ∧ c 117 nd = c 8 nd) (hx : C (o + 23) nd = R 0 (610 + nd)) (hy : C (o + 22) nd = R 0 (620 + nd)) : m_X4_findFilter C o nd z = zup (bst C o nd z R) (o + 23) nd (R z (610 + nd)) := by
  have g : ∀ (n i : Nat), i + n = z → g1_X4_findFilter C o nd z n i (R i (610 + nd)) (R i (620 + nd)) (bst C o nd i R) (fun _ x _ c1 => zup c1 (o + 23) nd x) = zup (bst C o nd z R) (o + 23) nd (R z (610 + nd)) := by
    intro n
    induction n with
    | zero => intro i hi; rw [show z = i by omega]; rfl
    | succ n ih =>
      intro i hi
      rw [g1_X4_findFilter, bst_in ho hg h3 hn h10 (by omega) h, hg 6 (by decide), hg 7 (by decide), hg 8 (by decide), cut_eq]
      obtain ⟨e1, e2, e3⟩ := (hf i (by omega)).2.2.1 hk
      rw [hp.1, hp.2.1, hp.2.2] at e2
      rw [← e2, ← e1]
      have e4 := bst_s C o nd i R
      rw [e3] at e4
      rw [e4]
      exact ih (i + 1) (by omega)
  have h9 := g z 0 (by omega)
  rw [bst_0] at h9
  unfold m_X4_findFilter
  rw [hx, hy]
  exact h9
theorem mod_2 {a L : Nat} (h : a < 2 * L) : a % L = if a < L then a else a - L := by
  by_cases h1 : a < L
  · rw [if_pos h1]; exact Nat.mod_eq_of_lt h1
  · rw [if_neg h1, Nat.mod_eq_sub_mod (by omega)]; exact Nat.mod_eq_of_lt (by omega)
/-- the delay's places in turn -/
def zDl (c : Nat → Nat → Int32) (R : Nat → Nat → Int32) (nd z : Nat) : Prop := ∀ i, i < z → R (i + 1) (630 + nd) = R i (60 * nd + zn (R i (600 + nd))) ∧ R (i + 1) (600 + nd) = nI ((zn (R i (600 + nd)) + 1) % zn (c 4 nd)) ∧ ∀ q, q < 60 → R (i + 1) (60 * nd + q) = if q = zn (R i (600 + nd)) then r_X7_cut (inp c (R (i + 1)) nd + (R (i + 1) (630 + nd) * c 5 nd) / 100) else R i (60 * nd + q)
theorem dl_pos (h : zDl c R nd z) (h1 : zn (R 0 (600 + nd)) < zn (c 4 nd)) (h60 : zn (c 4 nd) ≤ 60) : ∀ i, i ≤ z → zn (R i (600 + nd)) = (zn (R 0 (600 + nd)) + i) % zn (c 4 nd) := by
  intro i
  induction i with
  | zero => intro _; rw [Nat.add_zero, Nat.mod_eq_of_lt h1]
  | succ i ih =>
    intro hi
    rw [(h i (by omega)).2.1, ih (by omega), zn_nI (by have := Nat.mod_lt ((zn (R 0 (600 + nd)) + i) % zn (c 4 nd) + 1) (show 0 < zn (c 4 nd) by omega); omega), Nat.mod_add_mod, Nat.add_assoc]
theorem dl_lt (h : zDl c R nd z) (h1 : zn (R 0 (600 + nd)) < zn (c 4 nd)) (h60 : zn (c 4 nd) ≤ 60) (i : Nat) (hi : i ≤ z) : zn (R i (600 + nd)) < zn (c 4 nd) := by
  rw [dl_pos h h1 h60 i hi]; exact Nat.mod_lt _ (by omega)
theorem dl_line (h : zDl c R nd z) (h1 : zn (R 0 (600 + nd)) < zn (c 4 nd)) (h60 : zn (c 4 nd) ≤ 60) : ∀ i, i ≤ z → ∀ q, q < 60 → (∀ j, j < i → q ≠ zn (R j (600 + nd))) → R i (60 * nd + q) = R 0 (60 * nd + q) := by
  intro i
  induction i with
  | zero => intro _ _ _ _; rfl
  | succ i ih =>
    intro hi q hq hj
    rw [(h i (by omega)).2.2 q hq, if_neg (hj i (by omega))]
    exact ih (by omega) q hq (fun j hj2 => hj j (by omega))
theorem dl_own (h : zDl c R nd z) (h1 : zn (R 0 (600 + nd)) < zn (c 4 nd)) (h60 : zn (c 4 nd) ≤ 60) (hz : z ≤ zn (c 4 nd)) {i : Nat} (hi : i < z) : R i (60 * nd + zn (R i (600 + nd))) = R 0 (60 * nd + zn (R i (600 + nd))) := by
  have hl := dl_lt h h1 h60 i (by omega)
  refine dl_line h h1 h60 i (by omega) _ (by omega) (fun j hj => ?_)
  rw [dl_pos h h1 h60 i (by omega), dl_pos h h1 h60 j (by omega), mod_2 (by omega), mod_2 (by omega)]
  split <;> split <;> omega
theorem next_ok {D : Nat → Nat → Int32} {x : Int32} (hx : zn x < zn (c 4 nd)) (h60 : zn (c 4 nd) ≤ 60) (hD : D 4 nd = c 4 nd) : m_X4_nextOldest D o nd x = nI ((zn x + 1) % zn (c 4 nd)) := by
  unfold m_X4_nextOldest
  rw [hD]
  have e : zn (x + 1) = zn x + 1 := zn_add (N := 60) (by omega) (by decide)
  have hle : c 4 nd ≤ x + 1 ↔ zn (c 4 nd) ≤ zn x + 1 := by rw [← e]; exact z_le (zn_eq _) (zn_eq _) (by omega) (by omega)
  rw [mod_2 (by omega)]
  by_cases h : zn (c 4 nd) ≤ zn x + 1
  · rw [if_pos (hle.mpr h), if_neg (by omega), show zn x + 1 - zn (c 4 nd) = 0 by omega]; rfl
  · rw [if_neg (fun q => h (hle.mp q)), if_pos (by omega), ← e, ← zn_eq]
theorem delay_ok (ho : 34 ≤ o) (hg : zCg c C) (h : zDl c R nd z) (h1 : zn (R 0 (600 + nd)) < zn (c 4 nd)) (h60 : zn (c 4 nd) ≤ 60) (hz : z ≤ zn (c 4 nd)) (hx : C (o + 35) nd = R 0 (600 + nd)) (hl : ∀ q, q < 60 → C (o + 25 + nd) q = R 0 (60 * nd + q)) : m_X4_findDelay C o nd z = bst C o nd z R := by
  have g : ∀ (n i : Nat), i + n = z → g1_X4_findDelay C o nd z n i (R i (600 + nd)) (bst C o nd i R) (fun _ _ c1 => c1) = bst C o nd z R := by
    intro n
    induction n with
    | zero => intro i hi; rw [show z = i by omega]; rfl
    | succ n ih =>
      intro i hi
      have hlt := dl_lt h h1 h60 i (by omega)
      rw [g1_X4_findDelay, hl _ (by omega), ← dl_own h h1 h60 hz (by omega), ← (h i (by omega)).1, bst_s, next_ok (c := c) hlt h60 (by rw [bst_o (by omega), hg 4 (by decide)]), ← (h i (by omega)).2.1]
      exact ih (i + 1) (by omega)
  have h9 := g z 0 (by omega)
  rw [bst_0] at h9
  unfold m_X4_findDelay
  rw [hx]
  exact h9
end
