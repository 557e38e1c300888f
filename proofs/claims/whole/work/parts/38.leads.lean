theorem wire_congr {c c' : Nat → Nat → Int32} (h1 : c' 118 = c 118) (h2 : c' 120 = c 120) (x : Int32) (t : Nat) : m_X7_wire c' x t = m_X7_wire c x t := by
  have g : ∀ (n i : Nat) (K : Nat → Int32), g1_X7_wire c' x t n i K = g1_X7_wire c x t n i K := by
    intro n
    induction n with
    | zero => intro i K; rfl
    | succ n ih => intro i K; rw [g1_X7_wire, g1_X7_wire, h1, ih]
  unfold m_X7_wire
  rw [h2, g]
/-- where the wire search ends -/
theorem wire_at {c : Nat → Nat → Int32} {t : Nat} (hc : zn (c 120 t) ≤ 4) (x : Int32) : (m_X7_wire c x t = -1 ∧ ∀ i, i < zn (c 120 t) → ¬ c 118 (4 * t + i) = x) ∨ ∃ i, i < zn (c 120 t) ∧ m_X7_wire c x t = nI i ∧ c 118 (4 * t + i) = x ∧ ∀ j, j < i → ¬ c 118 (4 * t + j) = x := by
  have g : ∀ (n i : Nat), i + n = zn (c 120 t) → (∀ j, j < i → ¬ c 118 (4 * t + j) = x) → (g1_X7_wire c x t n i (fun _ => -1) = -1 ∧ ∀ i', i' < zn (c 120 t) → ¬ c 118 (4 * t + i') = x) ∨ ∃ i', i' < zn (c 120 t) ∧ g1_X7_wire c x t n i (fun _ => -1) = nI i' ∧ c 118 (4 * t + i') = x ∧ ∀ j, j < i' → ¬ c 118 (4 * t + j) = x := by
    intro n
    induction n with
    | zero => intro i hi h; left; exact ⟨by rw [g1_X7_wire], fun j hj => h j (by omega)⟩
    | succ n ih =>
      intro i hi h
      by_cases q : c 118 (4 * t + i) = x
      · right; exact ⟨i, by omega, by rw [g1_X7_wire, if_pos q], q, h⟩
      · rw [g1_X7_wire, if_neg q]
        exact ih (i + 1) (by omega) (fun j hj => by
          by_cases q2 : j = i
          · subst q2; exact q
          · exact h j (by omega))
  unfold m_X7_wire
  exact g (zn (c 120 t)) 0 (by omega) (fun j hj => absurd hj (Nat.not_lt_zero _))
theorem wire_lt {c : Nat → Nat → Int32} {t : Nat} (hc : zn (c 120 t) ≤ 4) (x : Int32) : m_X7_wire c x t < 0 ↔ ∀ i, i < zn (c 120 t) → ¬ c 118 (4 * t + i) = x := by
  rcases wire_at hc x with h | ⟨i, h1, h2, h3, h4⟩
  · rw [h.1]; exact ⟨fun _ => h.2, fun _ => by decide⟩
  · rw [h2]
    constructor
    · intro h; exact absurd ((z_lt (a := i) (b := 0) rfl rfl (by omega) (by decide)).mp h) (Nat.not_lt_zero _)
    · intro h; exact absurd h3 (h i h1)
/-- a wire from k into j, and j no delay -/
def zEd (c : Nat → Nat → Int32) (k j : Nat) : Prop := ¬ c 114 j = 2 ∧ ∃ i, i < zn (c 120 j) ∧ c 118 (4 * j + i) = nI k
theorem zEd_w {c c4 : Nat → Nat → Int32} (hg : zG c) (h1 : c4 118 = c 118) (h2 : c4 120 = c 120) (k j : Nat) : zEd c k j ↔ ¬ (c 114 j = 2 ∨ m_X7_wire c4 (nI k) j < 0) := by
  have hc : zn (c 120 j) ≤ 4 := hg 120 j
  rw [wire_congr h1 h2, wire_lt hc]
  unfold zEd
  constructor
  · intro ⟨h, i, hi, h3⟩ h4
    rcases h4 with h4 | h4
    · exact h h4
    · exact h4 i hi h3
  · intro h
    refine ⟨fun z => h (Or.inl z), ?_⟩
    apply Classical.byContradiction
    intro h3
    exact h (Or.inr (fun i hi z => h3 ⟨i, hi, z⟩))
section
variable {c : Nat → Nat → Int32} {t u : Nat}
theorem lds4_o {k : Nat} {x : Nat} (hx : x ≠ 123) : ∀ (n j : Nat) (c4 : Nat → Nat → Int32), lds4 c t u k n j c4 x = c4 x := by
  intro n
  induction n with
  | zero => intro j c4; rfl
  | succ n ih =>
    intro j c4
    rw [lds4_s]
    split
    · exact ih _ _
    · rw [ih]; exact zup_i _ _ _ hx
theorem lds3_o {N : Nat} {x : Nat} (hx : x ≠ 123) : ∀ (n k : Nat) (c3 : Nat → Nat → Int32), lds3 c t u N n k c3 x = c3 x := by
  intro n
  induction n with
  | zero => intro k c3; rfl
  | succ n ih => intro k c3; rw [lds3, ih, lds4_o hx]
theorem lds2_o {N : Nat} {x : Nat} (hx : x ≠ 123) : ∀ (n : Nat) (c2 : Nat → Nat → Int32), lds2 c t u N n c2 x = c2 x := by
  intro n
  induction n with
  | zero => intro c2; rfl
  | succ n ih => intro c2; rw [lds2, ih, lds3_o hx]
theorem lds4_m {k : Nat} : ∀ (n j : Nat) (c4 : Nat → Nat → Int32) (q : Nat), ¬ c4 123 q = 0 → ¬ lds4 c t u k n j c4 123 q = 0 := by
  intro n
  induction n with
  | zero => intro j c4 q h; exact h
  | succ n ih =>
    intro j c4 q h
    rw [lds4_s]
    split
    · exact ih _ _ q h
    · refine ih _ _ q ?_
      rw [zup_at]
      split
      · decide
      · exact h
theorem lds3_m {N : Nat} : ∀ (n k : Nat) (c3 : Nat → Nat → Int32) (q : Nat), ¬ c3 123 q = 0 → ¬ lds3 c t u N n k c3 123 q = 0 := by
  intro n
  induction n with
  | zero => intro k c3 q h; exact h
  | succ n ih => intro k c3 q h; rw [lds3]; exact ih _ _ q (lds4_m _ _ _ q h)
theorem lds2_m {N : Nat} : ∀ (n : Nat) (c2 : Nat → Nat → Int32) (q : Nat), ¬ c2 123 q = 0 → ¬ lds2 c t u N n c2 123 q = 0 := by
  intro n
  induction n with
  | zero => intro c2 q h; exact h
  | succ n ih => intro c2 q h; rw [lds2]; exact ih _ q (lds3_m _ _ _ q h)
/-- what a round puts in lies in each set that is closed -/
theorem lds4_b (hg : zG c) {N k : Nat} (hk : k < N) {P : Nat → Prop} (hP : ∀ k j, k < N → j < N → P k → zEd c k j → P j) : ∀ (n j : Nat) (c4 : Nat → Nat → Int32), j + n = N → c4 118 = c 118 → c4 120 = c 120 → (∀ q, ¬ c4 123 q = 0 → P q) → ∀ q, ¬ lds4 c t u k n j c4 123 q = 0 → P q := by
  intro n
  induction n with
  | zero => intro j c4 _ _ _ h q hq; exact h q hq
  | succ n ih =>
    intro j c4 hj h1 h2 h q
    rw [lds4_s]
    split
    · exact ih _ _ (by omega) h1 h2 h q
    · rename_i h9
      have hE : zEd c k j := (zEd_w hg h1 h2 k j).mpr (fun z => h9 (Or.inr z))
      refine ih _ _ (by omega) (by rw [zup_i _ _ _ (by decide)]; exact h1) (by rw [zup_i _ _ _ (by decide)]; exact h2) (fun q' => ?_) q
      rw [zup_at]
      split
      · rename_i e; intro _; rw [e.2]; exact hP k j hk (by omega) (h k (fun z => h9 (Or.inl z))) hE
      · exact h q'
theorem lds3_b (hg : zG c) {N : Nat} {P : Nat → Prop} (hP : ∀ k j, k < N → j < N → P k → zEd c k j → P j) : ∀ (n k : Nat) (c3 : Nat → Nat → Int32), k + n = N → c3 118 = c 118 → c3 120 = c 120 → (∀ q, ¬ c3 123 q = 0 → P q) → ∀ q, ¬ lds3 c t u N n k c3 123 q = 0 → P q := by
  intro n
  induction n with
  | zero => intro k c3 _ _ _ h q hq; exact h q hq
  | succ n ih =>
    intro k c3 hk h1 h2 h q
    rw [lds3]
    exact ih _ _ (by omega) (by rw [lds4_o (by decide)]; exact h1) (by rw [lds4_o (by decide)]; exact h2) (lds4_b hg (by omega) hP _ _ _ (by omega) h1 h2 h) q
theorem lds2_b (hg : zG c) {N : Nat} {P : Nat → Prop} (hP : ∀ k j, k < N → j < N → P k → zEd c k j → P j) : ∀ (n : Nat) (c2 : Nat → Nat → Int32), c2 118 = c 118 → c2 120 = c 120 → (∀ q, ¬ c2 123 q = 0 → P q) → ∀ q, ¬ lds2 c t u N n c2 123 q = 0 → P q := by
  intro n
  induction n with
  | zero => intro c2 _ _ h q hq; exact h q hq
  | succ n ih =>
    intro c2 h1 h2 h q
    rw [lds2]
    exact ih _ (by rw [lds3_o (by decide)]; exact h1) (by rw [lds3_o (by decide)]; exact h2) (lds3_b hg hP _ _ _ (by omega) h1 h2 h) q
/-- a row of the round: each node behind a wire from k is in -/
theorem lds4_c (hg : zG c) {k : Nat} : ∀ (n j : Nat) (c4 : Nat → Nat → Int32), c4 118 = c 118 → c4 120 = c 120 → ¬ c4 123 k = 0 → ∀ q, j ≤ q → q < j + n → zEd c k q → ¬ lds4 c t u k n j c4 123 q = 0 := by
  intro n
  induction n with
  | zero => intro j c4 _ _ _ q h1 h2; omega
  | succ n ih =>
    intro j c4 h1 h2 h0 q hq1 hq2 hE
    rw [lds4_s]
    by_cases e : q = j
    · subst e
      have h3 := (zEd_w hg h1 h2 k q).mp hE
      rw [if_neg (fun z => by rcases z with z | z; exact h0 z; exact h3 z)]
      exact lds4_m _ _ _ q (by rw [zup_s]; decide)
    · split
      · exact ih _ _ h1 h2 h0 q (by omega) (by omega) hE
      · refine ih _ _ (by rw [zup_i _ _ _ (by decide)]; exact h1) (by rw [zup_i _ _ _ (by decide)]; exact h2) ?_ q (by omega) (by omega) hE
        rw [zup_at]
        split
        · decide
        · exact h0
theorem lds3_c (hg : zG c) {N : Nat} : ∀ (n k : Nat) (c3 : Nat → Nat → Int32), c3 118 = c 118 → c3 120 = c 120 → ∀ k' q, k ≤ k' → k' < k + n → q < N → ¬ c3 123 k' = 0 → zEd c k' q → ¬ lds3 c t u N n k c3 123 q = 0 := by
  intro n
  induction n with
  | zero => intro k c3 _ _ k' q h1 h2; omega
  | succ n ih =>
    intro k c3 h1 h2 k' q hk1 hk2 hq h0 hE
    rw [lds3]
    by_cases e : k' = k
    · subst e
      exact lds3_m _ _ _ q (lds4_c hg _ _ _ h1 h2 h0 q (by omega) (by omega) hE)
    · exact ih _ _ (by rw [lds4_o (by decide)]; exact h1) (by rw [lds4_o (by decide)]; exact h2) k' q (by omega) (by omega) hq (lds4_m _ _ _ k' h0) hE
def zCl (c : Nat → Nat → Int32) (N : Nat) (f : Nat → Int32) : Prop := ∀ k j, k < N → j < N → ¬ f k = 0 → zEd c k j → ¬ f j = 0
theorem lds2_c (hg : zG c) {N : Nat} : ∀ (n : Nat) (c2 : Nat → Nat → Int32), c2 118 = c 118 → c2 120 = c 120 → zCl c N (lds2 c t u N n c2 123) ∨ zct (c2 123) N + n ≤ zct (lds2 c t u N n c2 123) N := by
  have stay : ∀ (n : Nat) (c2 : Nat → Nat → Int32), c2 118 = c 118 → c2 120 = c 120 → zCl c N (c2 123) → zCl c N (lds2 c t u N n c2 123) := by
    intro n c2 h1 h2 hC k j hk hj h0 hE
    have h3 := lds2_b (t := t) (u := u) hg (N := N) (P := fun q => ¬ c2 123 q = 0) hC n c2 h1 h2 (fun q h => h) k h0
    exact lds2_m _ _ j (hC k j hk hj h3 hE)
  intro n
  induction n with
  | zero => intro c2 _ _; exact Or.inr (Nat.le_refl _)
  | succ n ih =>
    intro c2 h1 h2
    have g1 : lds3 c t u N N 0 c2 118 = c 118 := by rw [lds3_o (by decide)]; exact h1
    have g2 : lds3 c t u N N 0 c2 120 = c 120 := by rw [lds3_o (by decide)]; exact h2
    rw [lds2]
    by_cases q : ∀ j, j < N → ¬ lds3 c t u N N 0 c2 123 j = 0 → ¬ c2 123 j = 0
    · left
      refine stay _ _ g1 g2 (fun k j hk hj h0 hE => ?_)
      exact lds3_c hg _ _ _ h1 h2 k j (by omega) (by omega) hj (q k hk h0) hE
    · have q2 : ∃ j, j < N ∧ ¬ lds3 c t u N N 0 c2 123 j = 0 ∧ c2 123 j = 0 := by
        apply Classical.byContradiction
        intro z
        exact q (fun j hj h3 h4 => z ⟨j, hj, h3, h4⟩)
      obtain ⟨j, hj, h3, h4⟩ := q2
      rcases ih _ g1 g2 with h5 | h5
      · exact Or.inl h5
      · right
        have h6 := zct_lt (f := c2 123) (g := lds3 c t u N N 0 c2 123) (n := N) (fun q _ h => lds3_m _ _ _ q h) hj h4 h3
        omega
theorem zct_all {f : Nat → Int32} {n : Nat} (h : n ≤ zct f n) : ∀ j, j < n → ¬ f j = 0 := by
  intro j hj h0
  have := zct_lt (f := f) (g := fun _ => 1) (n := n) (fun _ _ _ => by decide) hj h0 (by decide)
  have h2 := zct_le (fun _ => (1 : Int32)) n
  omega
theorem lds1_o {x : Nat} (hx : x ≠ 123) : ∀ (n i : Nat) (c1 : Nat → Nat → Int32), lds1 c t n i c1 x = c1 x := by
  intro n
  induction n with
  | zero => intro i c1; rfl
  | succ n ih => intro i c1; rw [lds1, ih, zup_i _ _ _ hx]
theorem lds1_v : ∀ (n i : Nat) (c1 : Nat → Nat → Int32) (q : Nat), lds1 c t n i c1 123 q = if i ≤ q ∧ q < i + n then (if nI q = nI t ∧ ¬ c 114 q = 2 then 1 else 0) else c1 123 q := by
  intro n
  induction n with
  | zero => intro i c1 q; rw [if_neg (by omega)]; rfl
  | succ n ih =>
    intro i c1 q
    rw [lds1, ih]
    by_cases e : q = i
    · subst e
      rw [if_neg (show ¬ (q + 1 ≤ q ∧ q < q + 1 + n) by omega), if_pos (show q ≤ q ∧ q < q + (n + 1) by omega), zup_s]
    · by_cases h : i + 1 ≤ q ∧ q < i + 1 + n
      · rw [if_pos h, if_pos (show i ≤ q ∧ q < i + (n + 1) by omega)]
      · rw [if_neg h, if_neg (show ¬ (i ≤ q ∧ q < i + (n + 1)) by omega), zup_k _ _ e]
/-- what leads finds: the least closed set with its start -/
theorem leads_cl (hg : zG c) : ∃ f : Nat → Int32, (m_X7_leads c t u).1 = f u ∧ zCl c (zn (c 111 13)) f ∧ (t < 10 → ¬ c 114 t = 2 → ¬ f t = 0) ∧ ∀ P : Nat → Prop, (∀ k j, k < zn (c 111 13) → j < zn (c 111 13) → P k → zEd c k j → P j) → (∀ q, q < 10 → nI q = nI t → ¬ c 114 q = 2 → P q) → (∀ q, 10 ≤ q → ¬ c 123 q = 0 → P q) → ∀ q, ¬ f q = 0 → P q := by
  rw [leads_eq]
  have g1 : lds1 c t 10 0 c 118 = c 118 := lds1_o (by decide) _ _ _
  have g2 : lds1 c t 10 0 c 120 = c 120 := lds1_o (by decide) _ _ _
  refine ⟨_, rfl, ?_, fun ht h0 => ?_, fun P hP h1 h2 => ?_⟩
  · rcases lds2_c (t := t) (u := u) hg (N := zn (c 111 13)) (zn (c 111 13)) _ g1 g2 with h | h
    · exact h
    · intro k j hk hj _ _
      exact zct_all (by omega) j hj
  · refine lds2_m _ _ t ?_
    rw [lds1_v, if_pos (by omega), if_pos ⟨rfl, h0⟩]
    decide
  · refine lds2_b hg hP _ _ g1 g2 (fun q hq => ?_)
    rw [lds1_v] at hq
    by_cases e : 0 ≤ q ∧ q < 0 + 10
    · rw [if_pos e] at hq
      by_cases e2 : nI q = nI t ∧ ¬ c 114 q = 2
      · exact h1 q (by omega) e2.1 e2.2
      · rw [if_neg e2] at hq; exact absurd rfl hq
    · rw [if_neg e] at hq
      exact h2 q (by omega) hq
end
/-- a wire that leads nowhere back keeps the graph without circles -/
theorem con_ok {c C : Nat → Nat → Int32} {n x y : Nat} (hg : zG c) (hn : n = zn (c 111 13)) (hA : zAc c n) (hx : x < n) (hy : y < n) (hcnt : zn (c 120 y) < 4) (h114 : C 114 = c 114) (h118 : ∀ q, q ≠ 4 * y + zn (c 120 y) → C 118 q = c 118 q) (h118x : zn (C 118 (4 * y + zn (c 120 y))) = x) (h120 : ∀ q, q ≠ y → C 120 q = c 120 q) (h120y : zn (C 120 y) = zn (c 120 y) + 1) (hl : (m_X7_leads c y x).1 = 0) : zAc C n := by
  have hc : zn (c 111 13) ≤ 10 := hg 111 13
  have h4 : ∀ k, zn (c 120 k) ≤ 4 := fun k => hg 120 k
  obtain ⟨r, hr⟩ := hA
  obtain ⟨f, hf, hC, hs, _⟩ := leads_cl (c := c) (t := y) (u := x) hg
  rw [← hn] at hC
  rw [hl] at hf
  refine ⟨fun v => r v + (if f v = 0 then 0 else r x + 1), fun k hk h2 i hi => ?_⟩
  rw [h114] at h2
  have old : ∀ i, i < zn (c 120 k) → zn (c 118 (4 * k + i)) < n ∧ r (zn (c 118 (4 * k + i))) + (if f (zn (c 118 (4 * k + i))) = 0 then 0 else r x + 1) < r k + (if f k = 0 then 0 else r x + 1) := by
    intro i hi
    have h5 := hr k hk h2 i hi
    refine ⟨h5.1, ?_⟩
    by_cases q : f (zn (c 118 (4 * k + i))) = 0
    · rw [if_pos q]; omega
    · have h6 := hC _ k h5.1 hk q ⟨h2, i, hi, zn_eq _⟩
      rw [if_neg q, if_neg h6]; omega
  by_cases e : k = y
  · subst e
    rw [h120y] at hi
    by_cases e2 : i = zn (c 120 k)
    · subst e2
      rw [h118x]
      refine ⟨hx, ?_⟩
      have h6 : ¬ f k = 0 := hs (by omega) h2
      dsimp only
      rw [if_pos hf.symm, if_neg h6]; omega
    · rw [h118 _ (by omega)]
      exact old i (by omega)
  · rw [h120 k e] at hi
    have h7 := h4 k
    rw [h118 _ (by omega)]
    exact old i hi
/-- a wire less -/
theorem dis_ok {c C : Nat → Nat → Int32} {n : Nat} (hA : zAc c n) (h114 : C 114 = c 114) (h : ∀ k, k < n → ∀ i, i < zn (C 120 k) → ∃ j, j < zn (c 120 k) ∧ C 118 (4 * k + i) = c 118 (4 * k + j)) : zAc C n := by
  obtain ⟨r, hr⟩ := hA
  refine ⟨r, fun k hk h2 i hi => ?_⟩
  rw [h114] at h2
  obtain ⟨j, hj, e⟩ := h k hk i hi
  rw [e]
  exact hr k hk h2 j hj
/-- a node more, without wires -/
theorem add_ok {c C : Nat → Nat → Int32} {n : Nat} (hA : zAc c n) (h114 : ∀ k, k ≠ n → C 114 k = c 114 k) (h118 : C 118 = c 118) (h120 : C 120 = c 120) (h0 : c 120 n = 0) : zAc C (n + 1) := by
  obtain ⟨r, hr⟩ := hA
  refine ⟨r, fun k hk h2 i hi => ?_⟩
  rw [h120] at hi
  by_cases e : k = n
  · subst e; rw [h0] at hi; exact absurd hi (Nat.not_lt_zero _)
  · rw [h114 k e] at h2
    rw [h118]
    have h5 := hr k (by omega) h2 i hi
    exact ⟨by omega, h5.2⟩
