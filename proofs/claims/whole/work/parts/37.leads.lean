theorem g4_leads_n (c : Nat → Nat → Int32) (t u k : Nat) (K : Nat → (Nat → Nat → Int32) → Int32 × (Nat → Nat → Int32)) : ∀ (n j : Nat) (c4 : Nat → Nat → Int32), g4_X7_leads c t u k n j c4 K = K (j + n) (g4_X7_leads c t u k n j c4 (fun _ c4 => (0, c4))).2 := by
  intro n
  induction n with
  | zero => intro j c4; rfl
  | succ n ih =>
    intro j c4
    have e : ∀ c5, K (j + 1 + n) c5 = K (j + (n + 1)) c5 := fun c5 => by rw [show j + 1 + n = j + (n + 1) by omega]
    rw [g4_X7_leads, g4_X7_leads]
    by_cases q1 : c4 123 k = 0
    · rw [if_pos q1, if_pos q1, ih, e]
    · rw [if_neg q1, if_neg q1]
      by_cases q2 : c 114 j = 2
      · rw [if_pos q2, if_pos q2, ih, e]
      · rw [if_neg q2, if_neg q2]
        by_cases q3 : m_X7_wire c4 (nI k) j < 0
        · rw [if_pos q3, if_pos q3, ih, e]
        · rw [if_neg q3, if_neg q3, ih, e]
def lds4 (c : Nat → Nat → Int32) (t u k n j : Nat) (c4 : Nat → Nat → Int32) : Nat → Nat → Int32 := (g4_X7_leads c t u k n j c4 (fun _ c4 => (0, c4))).2
theorem lds4_s (c : Nat → Nat → Int32) (t u k n j : Nat) (c4 : Nat → Nat → Int32) : lds4 c t u k (n + 1) j c4 = if c4 123 k = 0 ∨ c 114 j = 2 ∨ m_X7_wire c4 (nI k) j < 0 then lds4 c t u k n (j + 1) c4 else lds4 c t u k n (j + 1) (zup c4 123 j 1) := by
  unfold lds4
  rw [g4_X7_leads]
  by_cases q1 : c4 123 k = 0
  · rw [if_pos q1, if_pos (Or.inl q1)]
  · rw [if_neg q1]
    by_cases q2 : c 114 j = 2
    · rw [if_pos q2, if_pos (Or.inr (Or.inl q2))]
    · rw [if_neg q2]
      by_cases q3 : m_X7_wire c4 (nI k) j < 0
      · rw [if_pos q3, if_pos (Or.inr (Or.inr q3))]
      · rw [if_neg q3, if_neg (fun z => by rcases z with z | z | z <;> contradiction)]
def lds3 (c : Nat → Nat → Int32) (t u N : Nat) : Nat → Nat → (Nat → Nat → Int32) → (Nat → Nat → Int32)
  | 0, _, c3 => c3
  | n + 1, k, c3 => lds3 c t u N n (k + 1) (lds4 c t u k N 0 c3)
theorem g3_leads_n (c : Nat → Nat → Int32) (t u : Nat) (K : Nat → (Nat → Nat → Int32) → Int32 × (Nat → Nat → Int32)) : ∀ (n k : Nat) (c3 : Nat → Nat → Int32), g3_X7_leads c t u n k c3 K = K (k + n) (lds3 c t u (zn (c 111 13)) n k c3) := by
  intro n
  induction n with
  | zero => intro k c3; rfl
  | succ n ih =>
    intro k c3
    rw [g3_X7_leads, g4_leads_n, ih, show k + 1 + n = k + (n + 1) by omega]
    rfl
def lds2 (c : Nat → Nat → Int32) (t u N : Nat) : Nat → (Nat → Nat → Int32) → (Nat → Nat → Int32)
  | 0, c2 => c2
  | n + 1, c2 => lds2 c t u N n (lds3 c t u N N 0 c2)
theorem g2_leads_n (c : Nat → Nat → Int32) (t u : Nat) (K : Nat → (Nat → Nat → Int32) → Int32 × (Nat → Nat → Int32)) : ∀ (n r : Nat) (c2 : Nat → Nat → Int32), g2_X7_leads c t u n r c2 K = K (r + n) (lds2 c t u (zn (c 111 13)) n c2) := by
  intro n
  induction n with
  | zero => intro r c2; rfl
  | succ n ih =>
    intro r c2
    rw [g2_X7_leads, g3_leads_n, ih, show r + 1 + n = r + (n + 1) by omega]
    rfl
def lds1 (c : Nat → Nat → Int32) (t : Nat) : Nat → Nat → (Nat → Nat → Int32) → (Nat → Nat → Int32)
  | 0, _, c1 => c1
  | n + 1, i, c1 => lds1 c t n (i + 1) (zup c1 123 i (if nI i = nI t ∧ ¬ c 114 i = 2 then 1 else 0))
theorem g1_leads_n (c : Nat → Nat → Int32) (t u : Nat) (K : Nat → (Nat → Nat → Int32) → Int32 × (Nat → Nat → Int32)) : ∀ (n i : Nat) (c1 : Nat → Nat → Int32), g1_X7_leads c t u n i c1 K = K (i + n) (lds1 c t n i c1) := by
  intro n
  induction n with
  | zero => intro i c1; rfl
  | succ n ih =>
    intro i c1
    rw [g1_X7_leads, lds1]
    by_cases q1 : nI i = nI t
    · by_cases q2 : c 114 i = 2
      · rw [if_pos q1, if_pos q2, if_neg (fun z => z.2 q2), ih, show i + 1 + n = i + (n + 1) by omega]
      · rw [if_pos q1, if_neg q2, if_pos ⟨q1, q2⟩, ih, show i + 1 + n = i + (n + 1) by omega]
    · rw [if_neg q1, if_neg (fun z => q1 z.1), ih, show i + 1 + n = i + (n + 1) by omega]
theorem leads_eq (c : Nat → Nat → Int32) (t u : Nat) : m_X7_leads c t u = (lds2 c t u (zn (c 111 13)) (zn (c 111 13)) (lds1 c t 10 0 c) 123 u, lds2 c t u (zn (c 111 13)) (zn (c 111 13)) (lds1 c t 10 0 c)) := by
  unfold m_X7_leads
  rw [g1_leads_n, g2_leads_n]