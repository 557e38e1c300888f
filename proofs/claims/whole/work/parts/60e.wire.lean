/-! wires more and less -/
theorem wire_fin {j : Nat} {c C0 D0 : Nat → Nat → Int32} {w w' : Nat → Int64} {ea : Nat → Nat → Int32} {n : Nat} (hI : zInv j c w ea) (hn : zn (c 1 0) = n) (hC : ∀ i k, i ≠ 10 → ¬ (12 ≤ i ∧ i ≤ 32) → C0 i k = c i k) (hD : ∀ i k, i ≠ 123 → ¬ (118 ≤ i ∧ i ≤ 120) → ¬ (i = 111 ∧ k = 12) → D0 i k = m_X0_arrange C0 i k) (h3 : ∀ k, k < n → D0 120 k = C0 10 k ∧ zn (C0 10 k) ≤ 4 ∧ ∀ i, i < zn (C0 10 k) → D0 118 (4 * k + i) = C0 (12 + k) i ∧ D0 119 (4 * k + i) = C0 (23 + k) i ∧ zn (C0 (12 + k) i) < n) (h2b : ∀ k, n ≤ k → D0 120 k = 0 ∧ C0 10 k = 0) (hA : zAc D0 n) (h12 : D0 111 12 = 0) (hg : zG (m_X7_lays D0)) (hw : w' 106 = w 106 ∧ w' 111 = w 111) : m_X7_lays D0 111 12 = 0 ∧ zInv (j + 1) (m_X7_lays D0) w' ea := by
  obtain ⟨g0, g1, g2, g2b, g3, g4, g5, g8, g9, g10, g11, g12, g13⟩ := hI
  have h10 := g1.2.2.1
  have dc : ∀ i k, i ≠ 10 → ¬ (12 ≤ i ∧ i ≤ 33) → i ≠ 123 → ¬ (118 ≤ i ∧ i ≤ 120) → ¬ (i = 111 ∧ k = 12) → D0 i k = c i k := fun i k h1 h2 h3 h4 h5 => by
    rw [hD i k h3 h4 h5, arr_o _ (by omega), hC i k h1 (by omega)]
  have da : ∀ i k, i < 33 → D0 i k = C0 i k := fun i k h1 => by rw [hD i k (by omega) (by omega) (by omega), arr_o _ (by omega)]
  have d1 : D0 1 0 = c 1 0 := dc 1 0 (by omega) (by omega) (by omega) (by omega) (by omega)
  have hGr : zGr C0 D0 n := by
    refine ⟨by rw [hC 1 0 (by omega) (by omega), hn], by rw [dc 111 13 (by omega) (by omega) (by omega) (by omega) (by omega), g1.1, hn], by omega, fun k hk => ?_, fun k hk => ⟨(h3 k hk).1, (h3 k hk).2.1⟩, fun k hk i hi => ?_⟩
    · rw [hC 2 k (by omega) (by omega), dc 114 k (by omega) (by omega) (by omega) (by omega) (by omega)]
      rcases (g2 k (by omega)).1 with ⟨a, b⟩ | ⟨a, b⟩ | ⟨a, b⟩ | ⟨a, b⟩ | ⟨a, b⟩ <;> rw [a, b] <;> decide
    · have h9 := (h3 k hk).2.2 i hi
      exact ⟨h9.1, h9.2.2⟩
  have hOr := arr_lays hGr hA
  have o2 : ∀ i k, i ≠ 121 → i ≠ 123 → m_X7_lays D0 i k = D0 i k := fun i k h1 h2 => by rw [hOr.o2 i h1 h2]
  have H : ∀ i k, (i < 70 ∨ 106 ≤ i) ∧ i ≠ 108 ∧ i ≠ 109 ∧ i ≠ 113 ∧ i ≠ 123 ∧ ¬ (i = 111 ∧ k = 12) ∧ (i = 112 → k < 704) → i ≠ 10 → ¬ (12 ≤ i ∧ i ≤ 33) → ¬ (118 ≤ i ∧ i ≤ 121) → m_X7_lays D0 i k = c i k := fun i k hr h1 h2 h3 => by
    rw [o2 i k (by omega) (by omega), dc i k h1 h2 (by omega) (by omega) (by omega)]
  have z1 : zn (m_X7_lays D0 1 0) = n := by rw [o2 1 0 (by decide) (by decide), d1, hn]
  refine ⟨by rw [o2 111 12 (by decide) (by decide), h12], hg, g1.congr (fun i k h => H i k (by omega) (by omega) (by omega) (by omega)), g2.congr (fun i k h => H i k (by omega) (by omega) (by omega) (by omega)), fun k hk => ?_, fun k hk => ?_, ?_, by unfold zI5; rw [z1]; exact hA.congr (hOr.o2 _ (by decide) (by decide)) (hOr.o2 _ (by decide) (by decide)) (hOr.o2 _ (by decide) (by decide)), g8.congr (fun i k h => H i k (by omega) (by omega) (by omega) (by omega)) hw, g9.congr (fun i k h => H i k (by omega) (by omega) (by omega) (by omega)) rfl, ?_, ?_, g12.congr (fun i k h => H i k (by omega) (by omega) (by omega) (by omega)), (g13.congr (fun i k h => H i k (by omega) (by omega) (by omega) (by omega))).mono⟩
  · rw [z1] at hk
    rw [H 114 k (by omega) (by omega) (by omega) (by omega), o2 120 k (by omega) (by omega), o2 10 k (by omega) (by omega), da 10 k (by omega)]
    exact ⟨(g2b k (by omega)).1, h2b k hk⟩
  · rw [z1] at hk ⊢
    rw [o2 120 k (by omega) (by omega), o2 10 k (by omega) (by omega), da 10 k (by omega)]
    obtain ⟨a1, a2, a3⟩ := h3 k hk
    refine ⟨a1, a2, fun i hi => ?_⟩
    rw [o2 118 _ (by omega) (by omega), o2 119 _ (by omega) (by omega), o2 (12 + k) _ (by omega) (by omega), o2 (23 + k) _ (by omega) (by omega), da (12 + k) i (by omega), da (23 + k) i (by omega)]
    exact a3 i hi
  · refine or_I4 hOr z1 ?_ rfl (hOr.o2 _ (by decide) (by decide)) ?_ (fun k hk => ?_)
    · rw [hOr.o2 33 (by decide) (by decide)]
      exact funext fun k => hD 33 k (by omega) (by omega) (by omega)
    · rw [hOr.o2 10 (by decide) (by decide)]
      exact funext fun k => da 10 k (by omega)
    · rw [hOr.o2 (12 + k) (by omega) (by omega)]
      exact funext fun q => da (12 + k) q (by omega)
  · rw [H 111 21 (by omega) (by omega) (by omega) (by omega)]
    exact g10.congr (fun v hv => funext fun k => H _ k (by omega) (by omega) (by omega) (by omega)) (fun _ _ => rfl) (fun q h1 h2 => H 112 q (by omega) (by omega) (by omega) (by omega))
  · exact g11.congr h10 (H 1 0 (by omega) (by omega) (by omega) (by omega)) (funext fun k => H 114 k (by omega) (by omega) (by omega) (by omega)) (funext fun k => H 4 k (by omega) (by omega) (by omega) (by omega)) (fun i hi => funext fun k => H i k (by omega) (by omega) (by omega) (by omega)) (fun q hq => H 112 q (by omega) (by omega) (by omega) (by omega))
/-- both sides look a wire up alike -/
theorem fw_eq {c : Nat → Nat → Int32} {t : Nat} (h : c 120 t = c 10 t) (hs : ∀ i, i < zn (c 10 t) → c 118 (4 * t + i) = c (12 + t) i) (x : Int32) : m_X0_findWire c x t = m_X7_wire c x t := by
  have g : ∀ (n i : Nat), i + n = zn (c 10 t) → g1_X0_findWire c x t n i (fun _ => -1) = g1_X7_wire c x t n i (fun _ => -1) := by
    intro n
    induction n with
    | zero => intro i _; rfl
    | succ n ih =>
      intro i hi
      rw [g1_X0_findWire, g1_X7_wire, hs i (by omega), ih (i + 1) (by omega)]
  unfold m_X0_findWire m_X7_wire
  rw [h]
  exact g _ 0 (by omega)
def cb2 (c : Nat → Nat → Int32) : Nat → Nat → Int32 → Int32
  | 0, _, y => y
  | n + 1, i, y => cb2 c n (i + 1) (if c 2 i = 100 then y else if m_X0_hasWireFrom c i y = 0 then y else (y ||| (1 <<< (nI i &&& 31))))
def cb1 (c : Nat → Nat → Int32) (N : Nat) : Nat → Int32 → Int32
  | 0, x => x
  | n + 1, x => cb1 c N n (cb2 c N 0 x)
theorem cb2_eq (c : Nat → Nat → Int32) (u t : Nat) (K : Nat → Int32 → Int32) : ∀ (n i : Nat) (y : Int32), g2_X0_closesBareCircle c u t n i y K = K (i + n) (cb2 c n i y) := by
  intro n
  induction n with
  | zero => intro i y; rfl
  | succ n ih =>
    intro i y
    rw [g2_X0_closesBareCircle, ih, ih, cb2, show i + 1 + n = i + (n + 1) by omega]
    by_cases h1 : c 2 i = 100
    · rw [if_pos h1, if_pos h1]
    · rw [if_neg h1, if_neg h1]
      by_cases h2 : m_X0_hasWireFrom c i y = 0
      · rw [if_pos h2, if_pos h2]
      · rw [if_neg h2, if_neg h2]
theorem cb1_eq (c : Nat → Nat → Int32) (u t : Nat) (K : Nat → Int32 → Int32) : ∀ (n j : Nat) (x : Int32), g1_X0_closesBareCircle c u t n j x K = K (j + n) (cb1 c (zn (c 1 0)) n x) := by
  intro n
  induction n with
  | zero => intro j x; rfl
  | succ n ih =>
    intro j x
    rw [g1_X0_closesBareCircle, cb2_eq]
    rw [ih, cb1, show j + 1 + n = j + (n + 1) by omega]
def bct (x : Int32) (N : Nat) : Nat := zct (fun k => if bt x k = true then 1 else 0) N
section
variable {c : Nat → Nat → Int32} {N : Nat}
def zEe (c : Nat → Nat → Int32) (k j : Nat) : Prop := ¬ c 2 j = 100 ∧ ∃ i, i < zn (c 10 j) ∧ c (12 + j) i = nI k
theorem cbs_iff (h10 : N ≤ 10) (hs : ∀ k, k < N → ∀ i, i < zn (c 10 k) → zn (c (12 + k) i) < N) {i : Nat} (hi : i < N) (y : Int32) {q : Nat} (hq : q < 32) : bt (if c 2 i = 100 then y else if m_X0_hasWireFrom c i y = 0 then y else (y ||| (1 <<< (nI i &&& 31)))) q = true ↔ (bt y q = true ∨ (q = i ∧ ∃ k, k < N ∧ bt y k = true ∧ zEe c k i)) := by
  have hw := hasWire_bt (c := c) (t := i) y (fun q hq => by have := hs i hi q hq; omega)
  by_cases h1 : c 2 i = 100
  · rw [if_pos h1]
    exact ⟨Or.inl, fun h => h.resolve_right (fun ⟨_, k, _, _, hk, _⟩ => hk h1)⟩
  · rw [if_neg h1]
    by_cases h2 : m_X0_hasWireFrom c i y = 0
    · rw [if_pos h2]
      refine ⟨Or.inl, fun h => h.resolve_right (fun ⟨_, k, hkN, hk, _, r, hr, e⟩ => ?_)⟩
      have h9 := hw.mp h2 r hr
      rw [e, zn_nI (by omega)] at h9
      exact h9 hk
    · rw [if_neg h2, bt_set y (by omega) hq]
      refine ⟨fun h => h.imp_right (fun e => ⟨e, ?_⟩), fun h => h.imp_right (fun e => e.1)⟩
      apply Classical.byContradiction
      intro z
      refine h2 (hw.mpr (fun r hr hb => z ⟨_, hs i hi r hr, hb, h1, r, hr, zn_eq _⟩))
theorem cb2_m (h10 : N ≤ 10) (hs : ∀ k, k < N → ∀ i, i < zn (c 10 k) → zn (c (12 + k) i) < N) : ∀ (n i : Nat) (y : Int32), i + n = N → ∀ q, q < 32 → bt y q = true → bt (cb2 c n i y) q = true := by
  intro n
  induction n with
  | zero => intro i y _ q _ h; exact h
  | succ n ih =>
    intro i y hi q hq h
    rw [cb2]
    exact ih (i + 1) _ (by omega) q hq ((cbs_iff h10 hs (by omega) y hq).mpr (Or.inl h))
theorem cb2_b (h10 : N ≤ 10) (hs : ∀ k, k < N → ∀ i, i < zn (c 10 k) → zn (c (12 + k) i) < N) {P : Nat → Prop} (hP : ∀ k j, k < N → j < N → P k → zEe c k j → P j) : ∀ (n i : Nat) (y : Int32), i + n = N → (∀ q, q < N → bt y q = true → P q) → ∀ q, q < N → bt (cb2 c n i y) q = true → P q := by
  intro n
  induction n with
  | zero => intro i y _ h; exact h
  | succ n ih =>
    intro i y hi h q hq hb
    rw [cb2] at hb
    refine ih (i + 1) _ (by omega) (fun r hr hb2 => ?_) q hq hb
    rcases (cbs_iff h10 hs (by omega) y (by omega)).mp hb2 with h9 | ⟨e, k, hk, h8, h7⟩
    · exact h r hr h9
    · subst e; exact hP k r hk hr (h k hk h8) h7
theorem cb2_c (h10 : N ≤ 10) (hs : ∀ k, k < N → ∀ i, i < zn (c 10 k) → zn (c (12 + k) i) < N) : ∀ (n i : Nat) (y : Int32), i + n = N → ∀ k j, k < N → bt y k = true → i ≤ j → j < N → zEe c k j → bt (cb2 c n i y) j = true := by
  intro n
  induction n with
  | zero => intro i y hi k j hk hb h1 h2; omega
  | succ n ih =>
    intro i y hi k j hk hb h1 h2 he
    rw [cb2]
    by_cases e : j = i
    · subst e
      exact cb2_m h10 hs n (j + 1) _ (by omega) j (by omega) ((cbs_iff h10 hs h2 y (by omega)).mpr (Or.inr ⟨rfl, k, hk, hb, he⟩))
    · exact ih (i + 1) _ (by omega) k j hk ((cbs_iff h10 hs (by omega) y (by omega)).mpr (Or.inl hb)) (by omega) h2 he
def zCb (c : Nat → Nat → Int32) (N : Nat) (x : Int32) : Prop := ∀ k j, k < N → j < N → bt x k = true → zEe c k j → bt x j = true
theorem cb1_c (h10 : N ≤ 10) (hs : ∀ k, k < N → ∀ i, i < zn (c 10 k) → zn (c (12 + k) i) < N) : ∀ (n : Nat) (x : Int32), zCb c N (cb1 c N n x) ∨ bct x N + n ≤ bct (cb1 c N n x) N := by
  intro n
  induction n with
  | zero => intro x; exact Or.inr (Nat.le_refl _)
  | succ n ih =>
    intro x
    rw [cb1]
    have m0 := cb2_m h10 hs N 0 x (by omega)
    by_cases q : zCb c N x
    · -- closed: it stays so
      have st : ∀ (n : Nat) (y : Int32), zCb c N y → zCb c N (cb1 c N n y) := by
        intro n
        induction n with
        | zero => intro y h; exact h
        | succ n ih2 =>
          intro y h
          rw [cb1]
          refine ih2 _ (fun k j hk hj hb he => ?_)
          have h9 := cb2_b h10 hs (P := fun q => bt y q = true) h N 0 y (by omega) (fun _ _ h => h) k hk hb
          exact cb2_m h10 hs N 0 y (by omega) j (by omega) (h k j hk hj h9 he)
      refine Or.inl (st n _ (fun k j hk hj hb he => ?_))
      have h9 := cb2_b h10 hs (P := fun q => bt x q = true) q N 0 x (by omega) (fun _ _ h => h) k hk hb
      exact m0 j (by omega) (q k j hk hj h9 he)
    · have ⟨k, j, hk, hj, hb, he, hn⟩ : ∃ k j, k < N ∧ j < N ∧ bt x k = true ∧ zEe c k j ∧ ¬ bt x j = true := by
        apply Classical.byContradiction
        intro z
        exact q (fun k j hk hj hb he => Classical.byContradiction (fun hn => z ⟨k, j, hk, hj, hb, he, hn⟩))
      have up : bct x N + 1 ≤ bct (cb2 c N 0 x) N := by
        unfold bct
        refine zct_lt (k := j) (fun r hr h1 => ?_) hj (if_neg hn) ?_
        · by_cases q : bt x r = true
          · rw [if_pos (m0 r (by omega) q)]; decide
          · rw [if_neg q] at h1; exact absurd rfl h1
        · rw [if_pos (cb2_c h10 hs N 0 x (by omega) k j hk hb (Nat.zero_le _) hj he)]; decide
      rcases ih (cb2 c N 0 x) with h | h
      · exact Or.inl h
      · exact Or.inr (by omega)
theorem cb1_m (h10 : N ≤ 10) (hs : ∀ k, k < N → ∀ i, i < zn (c 10 k) → zn (c (12 + k) i) < N) : ∀ (n : Nat) (x : Int32), ∀ q, q < 32 → bt x q = true → bt (cb1 c N n x) q = true := by
  intro n
  induction n with
  | zero => intro x q _ h; exact h
  | succ n ih => intro x q hq h; rw [cb1]; exact ih _ q hq (cb2_m h10 hs N 0 x (by omega) q hq h)
theorem cb1_b (h10 : N ≤ 10) (hs : ∀ k, k < N → ∀ i, i < zn (c 10 k) → zn (c (12 + k) i) < N) {P : Nat → Prop} (hP : ∀ k j, k < N → j < N → P k → zEe c k j → P j) : ∀ (n : Nat) (x : Int32), (∀ q, q < N → bt x q = true → P q) → ∀ q, q < N → bt (cb1 c N n x) q = true → P q := by
  intro n
  induction n with
  | zero => intro x h; exact h
  | succ n ih => intro x h; rw [cb1]; exact ih _ (cb2_b h10 hs hP N 0 x (by omega) h)
theorem cb1_cl (h10 : N ≤ 10) (hs : ∀ k, k < N → ∀ i, i < zn (c 10 k) → zn (c (12 + k) i) < N) (x : Int32) : zCb c N (cb1 c N N x) := by
  by_cases h0 : 0 < bct x N
  · rcases cb1_c h10 hs N x with h | h
    · exact h
    · have := zct_le (fun k => if bt (cb1 c N N x) k = true then (1 : Int32) else 0) N
      have : bct (cb1 c N N x) N ≤ N := this
      omega
  · -- nothing set: nothing comes
    have nx : ∀ q, q < N → ¬ bt x q = true := fun q hq hb => by
      have := zct_lt (f := fun _ => 0) (g := fun k => if bt x k = true then (1 : Int32) else 0) (k := q) (n := N) (fun _ _ h => absurd rfl h) hq rfl (by rw [if_pos hb]; decide)
      have h9 : bct x N = zct (fun k => if bt x k = true then (1 : Int32) else 0) N := rfl
      omega
    intro k j hk hj hb
    exact absurd hb (fun hb => cb1_b h10 hs (P := fun _ => False) (fun _ _ _ _ h _ => h) N x (fun q hq h => nx q hq h) k hk hb)
end
theorem bt_one {t k : Nat} (ht : t < 32) (hk : k < 32) : bt (1 <<< (nI t &&& 31)) k = true ↔ k = t := by
  rw [b_shl t ht 1 hk, Bool.and_eq_true, decide_eq_true_iff]
  constructor
  · rintro ⟨h1, h2⟩
    rw [b_1 (k - t) (by omega), decide_eq_true_iff] at h2
    omega
  · rintro rfl
    refine ⟨Nat.le_refl _, ?_⟩
    rw [Nat.sub_self]; decide
/-- both sides find the same circles -/
theorem circ_iff {c A : Nat → Nat → Int32} {n t u : Nat} (hg : zG A) (h10 : n ≤ 10) (hn : zn (c 1 0) = n) (hn2 : zn (A 111 13) = n) (hkd : ∀ k, k < n → (c 2 k = 100 ↔ A 114 k = 2)) (hk0 : ∀ k, n ≤ k → A 114 k = 0) (hct : ∀ k, k < n → A 120 k = c 10 k) (hs : ∀ k, k < n → ∀ i, i < zn (c 10 k) → A 118 (4 * k + i) = c (12 + k) i ∧ zn (c (12 + k) i) < n) (ht : t < n) (hu : u < n) : (m_X7_leads A t u).1 = 0 ↔ m_X0_closesBareCircle c u t = 0 := by
  obtain ⟨f, hf, fC, fS, fM⟩ := leads_cl (c := A) (t := t) (u := u) hg
  rw [hf]
  rw [hn2] at fC fM
  have hed : ∀ k j, j < n → (zEd A k j ↔ zEe c k j) := fun k j hj => by
    unfold zEd zEe
    rw [hct j hj, hkd j hj]
    constructor
    · rintro ⟨a, i, hi, e⟩
      exact ⟨a, i, hi, by rw [← (hs j hj i hi).1]; exact e⟩
    · rintro ⟨a, i, hi, e⟩
      exact ⟨a, i, hi, by rw [(hs j hj i hi).1]; exact e⟩
  have hs' : ∀ k, k < n → ∀ i, i < zn (c 10 k) → zn (c (12 + k) i) < n := fun k hk i hi => (hs k hk i hi).2
  unfold m_X0_closesBareCircle
  by_cases u2 : c 2 u = 100
  · rw [if_pos u2]
    refine ⟨fun _ => rfl, fun _ => Classical.byContradiction (fun h9 => ?_)⟩
    have := fM (fun q => ¬ A 114 q = 2) (fun k j _ _ _ he => he.1) (fun q _ _ h => h) (fun q hq _ => by rw [hk0 q (by omega)]; decide) u h9
    exact this ((hkd u hu).mp u2)
  · rw [if_neg u2]
    by_cases t2 : c 2 t = 100
    · rw [if_pos t2]
      refine ⟨fun _ => rfl, fun _ => Classical.byContradiction (fun h9 => ?_)⟩
      have := fM (fun q => 10 ≤ q) (fun k j hk _ h _ => by omega) (fun q hq e h => by
        have e9 : q = t := by have := congrArg zn e; rwa [zn_nI (by omega), zn_nI (by omega)] at this
        subst e9
        exact absurd ((hkd q ht).mp t2) h) (fun q hq _ => hq) u h9
      omega
    · rw [if_neg t2, cb1_eq, hn]
      rw [isIn_bt _ (by omega)]
      have key : ¬ f u = 0 ↔ bt (cb1 c n n (1 <<< (nI t &&& 31))) u = true := by
        constructor
        · intro h9
          have h8 := fM (fun q => 10 ≤ q ∨ bt (cb1 c n n (1 <<< (nI t &&& 31))) q = true) (fun k j hk hj h he => Or.inr (cb1_cl h10 hs' _ k j hk hj (h.resolve_left (by omega)) ((hed k j hj).mp he))) (fun q hq e _ => by
            have e9 : q = t := by have := congrArg zn e; rwa [zn_nI (by omega), zn_nI (by omega)] at this
            subst e9
            exact Or.inr (cb1_m h10 hs' n _ q (by omega) ((bt_one (by omega) (by omega)).mpr rfl))) (fun q hq _ => Or.inl hq) u h9
          exact h8.resolve_left (by omega)
        · intro h9
          refine cb1_b h10 hs' (P := fun q => ¬ f q = 0) (fun k j hk hj h he => fC k j hk hj h ((hed k j hj).mpr he)) n _ (fun q hq hb => ?_) u hu h9
          have e9 := (bt_one (by omega) (by omega)).mp hb
          subst e9
          exact fS (by omega) (fun h => t2 ((hkd q hq).mpr h))
      by_cases h9 : f u = 0
      · rw [if_neg (fun h => (key.mpr h) h9)]; exact ⟨fun _ => rfl, fun _ => h9⟩
      · rw [if_pos (key.mp h9)]; exact ⟨fun h => absurd h h9, fun h => absurd h (by decide)⟩
theorem leads_o (c : Nat → Nat → Int32) (t u : Nat) {x : Nat} (hx : x ≠ 123) : (m_X7_leads c t u).2 x = c x := by
  rw [leads_eq]
  dsimp only
  rw [lds2_o hx, lds1_o hx]
