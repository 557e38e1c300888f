/-! the order: both sides lay the same -/
theorem least {P : Nat → Prop} : ∀ n : Nat, (∃ j, j < n ∧ P j) → ∃ u, u < n ∧ P u ∧ ∀ k, k < u → ¬ P k := by
  intro n
  induction n with
  | zero => intro ⟨j, hj, _⟩; omega
  | succ n ih =>
    intro ⟨j, hj, h⟩
    by_cases q : ∃ j, j < n ∧ P j
    · obtain ⟨u, h1, h2, h3⟩ := ih q
      exact ⟨u, by omega, h2, h3⟩
    · have e : j = n := by
        rcases Nat.lt_succ_iff_lt_or_eq.mp hj with h9 | h9
        · exact absurd ⟨j, h9, h⟩ q
        · exact h9
      subst e
      exact ⟨j, by omega, h, fun k hk hp => q ⟨k, hk, hp⟩⟩
theorem g3lays_at {c c2 : Nat → Nat → Int32} {u : Nat} (hu : u ≤ 9) (h : ¬ m_X7_canCome c2 u = 0) (hl : ∀ k, k < u → m_X7_canCome c2 k = 0) (K : Nat → (Nat → Nat → Int32)) : ∀ (m k : Nat), k + m = 9 → k ≤ u → g3_X7_lays c c2 m k K = K u := by
  intro m
  induction m with
  | zero => intro k h1 h2; rw [show u = k by omega]; rfl
  | succ m ih =>
    intro k h1 h2
    rw [g3_X7_lays]
    by_cases e : k = u
    · subst e; rw [if_neg h]
    · rw [if_pos (hl k (by omega))]; exact ih (k + 1) (by omega) (by omega)
def zRdy (c : Nat → Nat → Int32) (x : Int32) (k : Nat) : Prop := r_X0_isIn x (nI k) = 0 ∧ (c 2 k = 100 ∨ m_X0_hasWireFrom c k (x ^^^ (-1)) = 0)
theorem g1low_at {c : Nat → Nat → Int32} {x : Int32} {u n : Nat} (hu : u < n) (h : zRdy c x u) (hl : ∀ k, k < u → ¬ zRdy c x k) (K : Nat → Int32) : ∀ (m k : Nat), k + m = n → k ≤ u → g1_X0_lowestReady c x m k K = nI u := by
  intro m
  induction m with
  | zero => intro k h1 h2; omega
  | succ m ih =>
    intro k h1 h2
    rw [g1_X0_lowestReady]
    by_cases e : k = u
    · subst e
      rw [if_pos h.1]
      by_cases e2 : c 2 k = 100
      · rw [if_pos e2]
      · rw [if_neg e2, if_pos (h.2.resolve_left e2)]
    · have h9 := hl k (by omega)
      by_cases e1 : r_X0_isIn x (nI k) = 0
      · rw [if_pos e1, if_neg (fun z => h9 ⟨e1, Or.inl z⟩), if_neg (fun z => h9 ⟨e1, Or.inr z⟩)]
        exact ih (k + 1) (by omega) (by omega)
      · rw [if_neg e1]; exact ih (k + 1) (by omega) (by omega)
section
variable {c d : Nat → Nat → Int32} {n : Nat}
/-- what both sides know of the graph -/
def zGr (c d : Nat → Nat → Int32) (n : Nat) : Prop := (zn (c 1 0) = n) ∧ (zn (d 111 13) = n) ∧ (n ≤ 10) ∧ (∀ k, k < n → (c 2 k = 100 ↔ d 114 k = 2)) ∧ (∀ k, k < n → d 120 k = c 10 k ∧ zn (c 10 k) ≤ 4) ∧ (∀ k, k < n → ∀ i, i < zn (c 10 k) → d 118 (4 * k + i) = c (12 + k) i ∧ zn (c (12 + k) i) < n)
theorem zGr.n1 {c d : Nat → Nat → Int32} {n : Nat} (h : zGr c d n) : zn (c 1 0) = n := h.1
theorem zGr.n2 {c d : Nat → Nat → Int32} {n : Nat} (h : zGr c d n) : zn (d 111 13) = n := h.2.1
theorem zGr.n9 {c d : Nat → Nat → Int32} {n : Nat} (h : zGr c d n) : n ≤ 10 := h.2.2.1
theorem zGr.kd {c d : Nat → Nat → Int32} {n : Nat} (h : zGr c d n) : ∀ k, k < n → (c 2 k = 100 ↔ d 114 k = 2) := h.2.2.2.1
theorem zGr.ct {c d : Nat → Nat → Int32} {n : Nat} (h : zGr c d n) : ∀ k, k < n → d 120 k = c 10 k ∧ zn (c 10 k) ≤ 4 := h.2.2.2.2.1
theorem zGr.sc {c d : Nat → Nat → Int32} {n : Nat} (h : zGr c d n) : ∀ k, k < n → ∀ i, i < zn (c 10 k) → d 118 (4 * k + i) = c (12 + k) i ∧ zn (c (12 + k) i) < n := h.2.2.2.2.2
def zOi (c d : Nat → Nat → Int32) (n p : Nat) (x : Int32) (c1 c2 : Nat → Nat → Int32) : Prop := (∀ i, i ≠ 33 → c1 i = c i) ∧ (∀ i, i ≠ 121 → i ≠ 123 → c2 i = d i) ∧ (∀ k, k < n → (bt x k = true ↔ ¬ c2 123 k = 0)) ∧ (zct (c2 123) n = p) ∧ (∀ q, q < p → c2 121 q = c1 33 q ∧ zn (c1 33 q) < n ∧ ¬ c2 123 (zn (c1 33 q)) = 0) ∧ (∀ k, k < n → ¬ c2 123 k = 0 → ∃ q, q < p ∧ c1 33 q = nI k) ∧ (∀ q r, q < p → r < p → c1 33 q = c1 33 r → q = r) ∧ (∀ q, q < p → ¬ d 114 (zn (c1 33 q)) = 2 → ∀ i, i < zn (c 10 (zn (c1 33 q))) → ∃ r, r < q ∧ c1 33 r = c (12 + zn (c1 33 q)) i) ∧ (∀ q, p ≤ q → c1 33 q = c 33 q) ∧ (∀ q, p ≤ q → c2 121 q = d 121 q)
theorem zOi.o1 {c d : Nat → Nat → Int32} {n p : Nat} {x : Int32} {c1 c2 : Nat → Nat → Int32} (h : zOi c d n p x c1 c2) : ∀ i, i ≠ 33 → c1 i = c i := h.1
theorem zOi.o2 {c d : Nat → Nat → Int32} {n p : Nat} {x : Int32} {c1 c2 : Nat → Nat → Int32} (h : zOi c d n p x c1 c2) : ∀ i, i ≠ 121 → i ≠ 123 → c2 i = d i := h.2.1
theorem zOi.b {c d : Nat → Nat → Int32} {n p : Nat} {x : Int32} {c1 c2 : Nat → Nat → Int32} (h : zOi c d n p x c1 c2) : ∀ k, k < n → (bt x k = true ↔ ¬ c2 123 k = 0) := h.2.2.1
theorem zOi.t {c d : Nat → Nat → Int32} {n p : Nat} {x : Int32} {c1 c2 : Nat → Nat → Int32} (h : zOi c d n p x c1 c2) : zct (c2 123) n = p := h.2.2.2.1
theorem zOi.e {c d : Nat → Nat → Int32} {n p : Nat} {x : Int32} {c1 c2 : Nat → Nat → Int32} (h : zOi c d n p x c1 c2) : ∀ q, q < p → c2 121 q = c1 33 q ∧ zn (c1 33 q) < n ∧ ¬ c2 123 (zn (c1 33 q)) = 0 := h.2.2.2.2.1
theorem zOi.s {c d : Nat → Nat → Int32} {n p : Nat} {x : Int32} {c1 c2 : Nat → Nat → Int32} (h : zOi c d n p x c1 c2) : ∀ k, k < n → ¬ c2 123 k = 0 → ∃ q, q < p ∧ c1 33 q = nI k := h.2.2.2.2.2.1
theorem zOi.j {c d : Nat → Nat → Int32} {n p : Nat} {x : Int32} {c1 c2 : Nat → Nat → Int32} (h : zOi c d n p x c1 c2) : ∀ q r, q < p → r < p → c1 33 q = c1 33 r → q = r := h.2.2.2.2.2.2.1
theorem zOi.g {c d : Nat → Nat → Int32} {n p : Nat} {x : Int32} {c1 c2 : Nat → Nat → Int32} (h : zOi c d n p x c1 c2) : ∀ q, q < p → ¬ d 114 (zn (c1 33 q)) = 2 → ∀ i, i < zn (c 10 (zn (c1 33 q))) → ∃ r, r < q ∧ c1 33 r = c (12 + zn (c1 33 q)) i := h.2.2.2.2.2.2.2.1
theorem zOi.f1 {c d : Nat → Nat → Int32} {n p : Nat} {x : Int32} {c1 c2 : Nat → Nat → Int32} (h : zOi c d n p x c1 c2) : ∀ q, p ≤ q → c1 33 q = c 33 q := h.2.2.2.2.2.2.2.2.1
theorem zOi.f2 {c d : Nat → Nat → Int32} {n p : Nat} {x : Int32} {c1 c2 : Nat → Nat → Int32} (h : zOi c d n p x c1 c2) : ∀ q, p ≤ q → c2 121 q = d 121 q := h.2.2.2.2.2.2.2.2.2
theorem rdy_iff (hg : zGr c d n) {p : Nat} {x : Int32} {c1 c2 : Nat → Nat → Int32} (h : zOi c d n p x c1 c2) {k : Nat} (hk : k < n) : zRdy c1 x k ↔ ¬ m_X7_canCome c2 k = 0 := by
  have h9 := hg.n9
  have r2 := h.o1 2 (by decide)
  have r10 := h.o1 10 (by decide)
  have rk := h.o1 (12 + k) (by omega)
  have r114 := h.o2 114 (by decide) (by decide)
  have r120 := h.o2 120 (by decide) (by decide)
  have r118 := h.o2 118 (by decide) (by decide)
  rw [cc_iff, r114, r120, r118, (hg.ct k hk).1]
  unfold zRdy
  rw [isIn_bt x (by omega), r2, hasWire_bt (x ^^^ (-1)) (fun i hi => by rw [r10] at hi; rw [rk]; have := (hg.sc k hk i hi).2; omega), r10, rk, hg.kd k hk]
  have e1 : ((if bt x k = true then (1 : Int32) else 0) = 0) ↔ c2 123 k = 0 := by
    by_cases q : bt x k = true
    · rw [if_pos q]; exact ⟨fun z => absurd z (by decide), fun z => absurd z ((h.b k hk).mp q)⟩
    · rw [if_neg q]; exact ⟨fun _ => Classical.byContradiction (fun z => q ((h.b k hk).mpr z)), fun _ => rfl⟩
  rw [e1]
  have e2 : (∀ i, i < zn (c 10 k) → ¬ bt (x ^^^ (-1)) (zn (c (12 + k) i)) = true) ↔ ∀ i, i < zn (c 10 k) → ¬ c2 123 (zn (d 118 (4 * k + i))) = 0 := by
    constructor
    · intro z i hi
      have h1 := z i hi
      have h2 := hg.sc k hk i hi
      rw [bt_not x (by omega)] at h1
      rw [h2.1]
      exact (h.b _ h2.2).mp (Classical.not_not.mp h1)
    · intro z i hi
      have h1 := z i hi
      have h2 := hg.sc k hk i hi
      rw [h2.1] at h1
      rw [bt_not x (by omega)]
      exact Classical.not_not.mpr ((h.b _ h2.2).mpr h1)
  rw [e2]
theorem oi_next (hg : zGr c d n) (hA : zAc d n) {p : Nat} {x : Int32} {c1 c2 : Nat → Nat → Int32} (hp : p < n) (h : zOi c d n p x c1 c2) : ∃ u, u < n ∧ m_X0_lowestReady c1 x = nI u ∧ (∀ K, g3_X7_lays d c2 9 0 K = K u) ∧ zOi c d n (p + 1) (x ||| (1 <<< (nI u &&& 31))) (zup c1 33 p (nI u)) (zup (zup c2 123 u 1) 121 p (nI u)) := by
  have h9 := hg.n9
  have hA2 : zAc c2 n := hA.congr (h.o2 114 (by decide) (by decide)) (h.o2 118 (by decide) (by decide)) (h.o2 120 (by decide) (by decide))
  obtain ⟨u, hu, hc, hl⟩ := least (P := fun j => ¬ m_X7_canCome c2 j = 0) n (hA2.some (zct_some (by rw [h.t]; exact hp)))
  have hl2 : ∀ k, k < u → m_X7_canCome c2 k = 0 := fun k hk => Classical.not_not.mp (hl k hk)
  have hr := (rdy_iff hg h hu).mpr hc
  have e1 : m_X0_lowestReady c1 x = nI u := by
    unfold m_X0_lowestReady
    exact g1low_at (n := zn (c1 1 0)) (by rw [h.o1 1 (by decide), hg.n1]; exact hu) hr (fun k hk z => (rdy_iff hg h (show k < n by omega)).mp z (hl2 k hk)) _ _ 0 (by omega) (Nat.zero_le _)
  have hz := (cc_iff.mp hc).1
  refine ⟨u, hu, e1, fun K => g3lays_at (by omega) hc hl2 K 9 0 (by omega) (Nat.zero_le _), ?_⟩
  have s1 : ∀ q, q ≠ p → zup c1 33 p (nI u) 33 q = c1 33 q := fun q hq => zup_k _ _ hq
  have s2 : zup c1 33 p (nI u) 33 p = nI u := zup_s _ _ _ _
  have s3 : ∀ q, q ≠ u → zup (zup c2 123 u 1) 121 p (nI u) 123 q = c2 123 q := fun q hq => by rw [zup_i _ _ _ (by decide), zup_k _ _ hq]
  have s4 : zup (zup c2 123 u 1) 121 p (nI u) 123 u = 1 := by rw [zup_i _ _ _ (by decide), zup_s]
  have s5 : ∀ q, q ≠ p → zup (zup c2 123 u 1) 121 p (nI u) 121 q = c2 121 q := fun q hq => by rw [zup_k _ _ hq, zup_i _ _ _ (by decide)]
  have s6 : zup (zup c2 123 u 1) 121 p (nI u) 121 p = nI u := zup_s _ _ _ _
  have nu : zn (nI u) = u := zn_nI (by omega)
  have hnz : ∀ q, ¬ c2 123 q = 0 → ¬ zup (zup c2 123 u 1) 121 p (nI u) 123 q = 0 := fun q hq => by
    by_cases e : q = u
    · subst e; rw [s4]; decide
    · rw [s3 q e]; exact hq
  refine ⟨fun i hi => by rw [zup_i _ _ _ hi]; exact h.o1 i hi, fun i hi hi2 => by rw [zup_i _ _ _ hi, zup_i _ _ _ hi2]; exact h.o2 i hi hi2, fun k hk => ?_, ?_, fun q hq => ?_, fun k hk hk2 => ?_, fun q r hq hr' e => ?_, fun q hq hd i hi => ?_, fun q hq => ?_, fun q hq => ?_⟩
  · rw [bt_set x (by omega) (by omega)]
    by_cases e : k = u
    · subst e; rw [s4]; exact ⟨fun _ => by decide, fun _ => Or.inr rfl⟩
    · rw [s3 k e, ← h.b k hk]; exact ⟨fun z => z.resolve_right e, Or.inl⟩
  · have a1 : zct (zup (zup c2 123 u 1) 121 p (nI u) 123) n ≤ zct (c2 123) n + 1 := by
      rw [zup_i _ _ _ (by decide)]; exact zct_up c2 123 u 1 n
    have a2 := zct_lt (f := c2 123) (g := zup (zup c2 123 u 1) 121 p (nI u) 123) (fun j _ hj => hnz j hj) hu hz (by rw [s4]; decide)
    have := h.t
    omega
  · by_cases e : q = p
    · subst e; rw [s2, s6, nu, s4]; exact ⟨rfl, hu, by decide⟩
    · obtain ⟨a1, a2, a3⟩ := h.e q (by omega)
      rw [s1 q e, s5 q e]; exact ⟨a1, a2, hnz _ a3⟩
  · by_cases e : k = u
    · subst e; exact ⟨p, by omega, s2⟩
    · rw [s3 k e] at hk2
      obtain ⟨q, hq, hq2⟩ := h.s k hk hk2
      exact ⟨q, by omega, by rw [s1 q (by omega)]; exact hq2⟩
  · have nq : ∀ q, q < p → ¬ c1 33 q = nI u := fun q hq z => by
      have := (h.e q hq).2.2
      rw [z, nu] at this
      exact this hz
    by_cases e1 : q = p
    · by_cases e2 : r = p
      · omega
      · subst e1; rw [s2, s1 r e2] at e; exact absurd e.symm (nq r (by omega))
    · by_cases e2 : r = p
      · subst e2; rw [s2, s1 q e1] at e; exact absurd e (nq q (by omega))
      · rw [s1 q e1, s1 r e2] at e; exact h.j q r (by omega) (by omega) e
  · by_cases e : q = p
    · subst e
      rw [s2, nu] at hd hi ⊢
      rcases (cc_iff.mp hc).2 with h2 | h2
      · rw [h.o2 114 (by decide) (by decide)] at h2; exact absurd h2 hd
      · rw [h.o2 120 (by decide) (by decide), h.o2 118 (by decide) (by decide), (hg.ct u hu).1] at h2
        have h3 := h2 i hi
        have h4 := hg.sc u hu i hi
        rw [h4.1] at h3
        obtain ⟨r, hr1, hr2⟩ := h.s _ h4.2 h3
        exact ⟨r, by omega, by rw [s1 r (by omega), hr2, ← zn_eq]⟩
    · rw [s1 q e] at hd hi ⊢
      obtain ⟨r, hr1, hr2⟩ := h.g q (by omega) hd i hi
      exact ⟨r, hr1, by rw [s1 r (by omega)]; exact hr2⟩
  · rw [s1 q (by omega)]; exact h.f1 q (by omega)
  · rw [s5 q (by omega)]; exact h.f2 q (by omega)
theorem oi_all (hg : zGr c d n) (hA : zAc d n) : ∀ (m p : Nat) (x : Int32) (c1 c2 : Nat → Nat → Int32), p + m = n → zOi c d n p x c1 c2 → ∃ X, zOi c d n n X (g1_X0_arrange c m p x c1 (fun _ _ c1 => c1)) (g2_X7_lays d m p c2 (fun _ c2 => c2)) := by
  intro m
  induction m with
  | zero => intro p x c1 c2 hp h; have e : p = n := by omega
            subst e; exact ⟨x, h⟩
  | succ m ih =>
    intro p x c1 c2 hp h
    obtain ⟨u, hu, e1, e2, h2⟩ := oi_next hg hA (by omega) h
    rw [g1_X0_arrange, g2_X7_lays, e1, e2]
    exact ih (p + 1) _ _ _ (by omega) h2
theorem lays1_o {x : Nat} (K : Nat → (Nat → Nat → Int32) → (Nat → Nat → Int32)) : ∀ (m i : Nat) (c1 : Nat → Nat → Int32), ∃ C j, g1_X7_lays d m i c1 K = K j C ∧ (∀ y, y ≠ 123 → C y = c1 y) ∧ ∀ q, C 123 q = if i ≤ q ∧ q < i + m then 0 else c1 123 q := by
  intro m
  induction m with
  | zero => intro i c1; exact ⟨c1, i, rfl, fun _ _ => rfl, fun q => by rw [if_neg (by omega)]⟩
  | succ m ih =>
    intro i c1
    obtain ⟨C, j, e, h1, h2⟩ := ih (i + 1) (zup c1 123 i 0)
    refine ⟨C, j, by rw [g1_X7_lays]; exact e, fun y hy => by rw [h1 y hy, zup_i _ _ _ hy], fun q => ?_⟩
    rw [h2 q]
    by_cases a : q = i
    · subst a; rw [if_neg (by omega), if_pos (by omega), zup_s]
    · rw [zup_k _ _ a]
      by_cases b : i + 1 ≤ q ∧ q < i + 1 + m
      · rw [if_pos b, if_pos (by omega)]
      · rw [if_neg b, if_neg (by omega)]
/-- the two orders are one, and it is an order -/
def zOr (c d A D : Nat → Nat → Int32) (n : Nat) : Prop := (∀ i, i ≠ 33 → A i = c i) ∧ (∀ i, i ≠ 121 → i ≠ 123 → D i = d i) ∧ (∀ q, q < n → D 121 q = A 33 q ∧ zn (A 33 q) < n) ∧ (∀ q r, q < n → r < n → A 33 q = A 33 r → q = r) ∧ (∀ x, zn x < n → ∃ q, q < n ∧ A 33 q = x) ∧ (∀ q, q < n → ¬ d 114 (zn (A 33 q)) = 2 → ∀ i, i < zn (c 10 (zn (A 33 q))) → ∃ r, r < q ∧ A 33 r = c (12 + zn (A 33 q)) i)
theorem zOr.o1 {c d A D : Nat → Nat → Int32} {n : Nat} (h : zOr c d A D n) : ∀ i, i ≠ 33 → A i = c i := h.1
theorem zOr.o2 {c d A D : Nat → Nat → Int32} {n : Nat} (h : zOr c d A D n) : ∀ i, i ≠ 121 → i ≠ 123 → D i = d i := h.2.1
theorem zOr.e {c d A D : Nat → Nat → Int32} {n : Nat} (h : zOr c d A D n) : ∀ q, q < n → D 121 q = A 33 q ∧ zn (A 33 q) < n := h.2.2.1
theorem zOr.j {c d A D : Nat → Nat → Int32} {n : Nat} (h : zOr c d A D n) : ∀ q r, q < n → r < n → A 33 q = A 33 r → q = r := h.2.2.2.1
theorem zOr.s {c d A D : Nat → Nat → Int32} {n : Nat} (h : zOr c d A D n) : ∀ x, zn x < n → ∃ q, q < n ∧ A 33 q = x := h.2.2.2.2.1
theorem zOr.g {c d A D : Nat → Nat → Int32} {n : Nat} (h : zOr c d A D n) : ∀ q, q < n → ¬ d 114 (zn (A 33 q)) = 2 → ∀ i, i < zn (c 10 (zn (A 33 q))) → ∃ r, r < q ∧ A 33 r = c (12 + zn (A 33 q)) i := h.2.2.2.2.2
theorem arr_lays (hg : zGr c d n) (hA : zAc d n) : zOr c d (m_X0_arrange c) (m_X7_lays d) n := by
  have h9 := hg.n9
  unfold m_X0_arrange m_X7_lays
  obtain ⟨C, j, e, h1, h2⟩ := lays1_o (d := d) (x := 0) (fun _ c1 => g2_X7_lays d (zn (d 111 13)) 0 c1 (fun _ c2 => c2)) 10 0 d
  rw [e]
  have z : ∀ k, k < n → C 123 k = 0 := fun k hk => by rw [h2 k, if_pos (by omega)]
  have H : zOi c d n 0 0 c C := ⟨fun _ _ => rfl, fun i _ hi => h1 i hi, fun k hk => by rw [b_0, z k hk]; exact ⟨fun q => absurd q (by decide), fun q => absurd rfl q⟩, zct_zero z, fun q hq => by omega, fun k hk h => absurd (z k hk) h, fun q r hq => by omega, fun q hq => by omega, fun _ _ => rfl, fun q _ => by rw [h1 121 (by decide)]⟩
  rw [hg.n1, hg.n2]
  obtain ⟨X, h⟩ := oi_all hg hA n 0 0 c C (by omega) H
  refine ⟨h.o1, h.o2, fun q hq => ⟨(h.e q hq).1, (h.e q hq).2.1⟩, h.j, fun x hx => ?_, h.g⟩
  obtain ⟨q, h3, h4⟩ := h.s (zn x) hx (zct_all (by rw [h.t]; exact Nat.le_refl _) _ hx)
  exact ⟨q, h3, by rw [h4, ← zn_eq]⟩
end
