/-! rows on bits, shifts and unsigned numbers, to paste: each family out of a closed proof of our own, whole with what it rests on; each by itself clean at Lean in its own claim (generation 39, form 5). Take a family whole -/
/-! ===== Int32 by its bits: bt x i ===== -/
def bt (x : Int32) (i : Nat) : Bool := x.toBitVec.getLsbD i
theorem b_ext {x y : Int32} (h : ∀ i, i < 32 → bt x i = bt y i) : x = y := Int32.toBitVec_inj.mp (BitVec.eq_of_getLsbD_eq (fun i hi => h i hi))
theorem b_or (x y : Int32) (i : Nat) : bt (x ||| y) i = (bt x i || bt y i) := by unfold bt; rw [Int32.toBitVec_or, BitVec.getLsbD_or]
theorem b_and (x y : Int32) (i : Nat) : bt (x &&& y) i = (bt x i && bt y i) := by unfold bt; rw [Int32.toBitVec_and, BitVec.getLsbD_and]
theorem b_xor (x y : Int32) (i : Nat) : bt (x ^^^ y) i = (bt x i ^^ bt y i) := by unfold bt; rw [Int32.toBitVec_xor, BitVec.getLsbD_xor]
theorem b_big {x : Int32} {i : Nat} (h : 32 ≤ i) : bt x i = false := BitVec.getLsbD_of_ge _ _ h
theorem b_255 (i : Nat) : bt 255 i = decide (i < 8) := by
  rcases Nat.lt_or_ge i 32 with h | h
  · exact (by decide +kernel : ∀ i, i < 32 → bt 255 i = decide (i < 8)) i h
  · rw [b_big h, decide_eq_false (by omega)]
theorem b_65535 (i : Nat) : bt 65535 i = decide (i < 16) := by
  rcases Nat.lt_or_ge i 32 with h | h
  · exact (by decide +kernel : ∀ i, i < 32 → bt 65535 i = decide (i < 16)) i h
  · rw [b_big h, decide_eq_false (by omega)]
theorem b_m1 : ∀ i, i < 32 → bt (-1) i = true := by decide +kernel
theorem b_0 (i : Nat) : bt 0 i = false := BitVec.getLsbD_zero
theorem s_l : ∀ n, n < 32 → ((nI n &&& 31).toBitVec.smod 32).toNat = n := by decide +kernel
theorem s_u : ∀ n, n < 32 → (((nI n).toUInt32 &&& Int32.toUInt32 31).toBitVec % 32).toNat = n := by decide +kernel
theorem b_shl (n : Nat) (hn : n < 32) (x : Int32) {i : Nat} (hi : i < 32) : bt (x <<< (nI n &&& 31)) i = (decide (n ≤ i) && bt x (i - n)) := by
  unfold bt
  rw [Int32.toBitVec_shiftLeft]
  show (x.toBitVec <<< ((nI n &&& 31).toBitVec.smod 32).toNat).getLsbD i = _
  rw [s_l n hn, BitVec.getLsbD_shiftLeft]
  rcases Nat.lt_or_ge i n with h | h
  · simp [h, Nat.not_le.mpr h]
  · simp [hi, h, Nat.not_lt.mpr h]
theorem b_ushr (n : Nat) (hn : n < 32) (x : Int32) (i : Nat) : bt ((x.toUInt32 >>> ((nI n).toUInt32 &&& Int32.toUInt32 31)).toInt32) i = bt x (n + i) := by
  show (x.toUInt32 >>> ((nI n).toUInt32 &&& Int32.toUInt32 31)).toBitVec.getLsbD i = x.toUInt32.toBitVec.getLsbD (n + i)
  rw [UInt32.toBitVec_shiftRight]
  show (x.toUInt32.toBitVec >>> (((nI n).toUInt32 &&& Int32.toUInt32 31).toBitVec % 32).toNat).getLsbD i = _
  rw [s_u n hn, BitVec.getLsbD_ushiftRight]
theorem b_sshr (n : Nat) (hn : n < 32) (x : Int32) {i : Nat} (hi : i < 32) : bt (x >>> (nI n &&& 31)) i = if n + i < 32 then bt x (n + i) else bt x 31 := by
  unfold bt
  rw [Int32.toBitVec_shiftRight]
  show (x.toBitVec.sshiftRight ((nI n &&& 31).toBitVec.smod 32).toNat).getLsbD i = _
  rw [s_l n hn, BitVec.getLsbD_sshiftRight, BitVec.msb_eq_getLsbD_last]
  simp [hi]
theorem b_1 : ∀ i, i < 32 → bt 1 i = decide (i = 0) := by decide +kernel
theorem isIn_bt (x : Int32) {k : Nat} (hk : k < 31) : r_X0_isIn x (nI k) = if bt x k = true then 1 else 0 := by
  have e : ((x >>> (nI k &&& 31)) &&& 1 = 1) ↔ bt x k = true := by
    constructor
    · intro h
      have h0 : bt ((x >>> (nI k &&& 31)) &&& 1) 0 = bt 1 0 := by rw [h]
      rw [b_and, b_sshr k (by omega) x (by decide), b_1 0 (by decide), if_pos (by omega)] at h0
      simpa using h0
    · intro h
      refine b_ext (fun i hi => ?_)
      rw [b_and, b_sshr k (by omega) x hi, b_1 i hi]
      by_cases q : i = 0
      · subst q; rw [if_pos (by omega)]; simp [h]
      · simp [q]
  unfold r_X0_isIn
  by_cases h : bt x k = true
  · rw [if_pos (e.mpr h), if_pos h]
  · rw [if_neg (fun q => h (e.mp q)), if_neg h]
theorem bt_set (x : Int32) {u k : Nat} (hu : u < 32) (hk : k < 32) : bt (x ||| (1 <<< (nI u &&& 31))) k = true ↔ (bt x k = true ∨ k = u) := by
  rw [b_or, b_shl u hu 1 hk]
  by_cases h : u ≤ k
  · rw [b_1 (k - u) (by omega), Bool.or_eq_true, Bool.and_eq_true, decide_eq_true_iff, decide_eq_true_iff]
    constructor
    · rintro (z | ⟨_, z⟩)
      · exact Or.inl z
      · exact Or.inr (by omega)
    · rintro (z | z)
      · exact Or.inl z
      · exact Or.inr ⟨h, by omega⟩
  · rw [decide_eq_false h, Bool.false_and, Bool.or_false]
    constructor
    · exact Or.inl
    · rintro (z | z)
      · exact z
      · omega
theorem bt_not (x : Int32) {k : Nat} (hk : k < 32) : bt (x ^^^ (-1)) k = true ↔ ¬ bt x k = true := by
  rw [b_xor, b_m1 k hk]
  cases bt x k <;> decide
theorem zn_bt (y : Int32) : y = nI (zn y) := zn_eq y
theorem hasWire_bt {c : Nat → Nat → Int32} {t : Nat} (x : Int32) (hs : ∀ i, i < zn (c 10 t) → zn (c (12 + t) i) < 31) : m_X0_hasWireFrom c t x = 0 ↔ ∀ i, i < zn (c 10 t) → ¬ bt x (zn (c (12 + t) i)) = true := by
  have g : ∀ (n i : Nat), i + n = zn (c 10 t) → (g1_X0_hasWireFrom c t x n i (fun _ => 0) = 0 ↔ ∀ q, i ≤ q → q < zn (c 10 t) → ¬ bt x (zn (c (12 + t) q)) = true) := by
    intro n
    induction n with
    | zero => intro i hi; exact ⟨fun _ q h1 h2 => by omega, fun _ => rfl⟩
    | succ n ih =>
      intro i hi
      have e : r_X0_isIn x (c (12 + t) i) = if bt x (zn (c (12 + t) i)) = true then 1 else 0 := by
        have h9 := isIn_bt x (hs i (by omega))
        rwa [← zn_eq] at h9
      rw [g1_X0_hasWireFrom, e]
      by_cases q : bt x (zn (c (12 + t) i)) = true
      · rw [if_pos q, if_neg (by decide)]
        exact ⟨fun z => absurd z (by decide), fun z => absurd q (z i (Nat.le_refl _) (by omega))⟩
      · rw [if_neg q, if_pos rfl, ih (i + 1) (by omega)]
        constructor
        · intro z q1 h1 h2
          by_cases e9 : q1 = i
          · subst e9; exact q
          · exact z q1 (by omega) h2
        · intro z q1 h1 h2; exact z q1 (by omega) h2
  unfold m_X0_hasWireFrom
  rw [g _ 0 (by omega)]
  exact ⟨fun z i hi => z i (Nat.zero_le _) hi, fun z i _ hi => z i hi⟩
theorem cc_iff {c : Nat → Nat → Int32} {t : Nat} : ¬ m_X7_canCome c t = 0 ↔ c 123 t = 0 ∧ (c 114 t = 2 ∨ ∀ i, i < zn (c 120 t) → ¬ c 123 (zn (c 118 (4 * t + i))) = 0) := by
  constructor
  · intro h
    unfold m_X7_canCome at h
    by_cases h0 : c 123 t = 0
    · refine ⟨h0, ?_⟩
      rw [if_pos h0] at h
      by_cases h2 : c 114 t = 2
      · exact Or.inl h2
      · right
        have g : ∀ (n i : Nat), i + n = zn (c 120 t) → ¬ g1_X7_canCome c t n i (fun _ => 1) = 0 → ∀ q, i ≤ q → q < zn (c 120 t) → ¬ c 123 (zn (c 118 (4 * t + q))) = 0 := by
          intro n
          induction n with
          | zero => intro i hi _ q h1 h2; omega
          | succ n ih =>
            intro i hi h9 q h1 h3
            rw [g1_X7_canCome, if_neg h2] at h9
            by_cases k : c 123 (zn (c 118 (4 * t + i))) = 0
            · rw [if_pos k] at h9; exact absurd rfl h9
            · rw [if_neg k] at h9
              by_cases e : q = i
              · subst e; exact k
              · exact ih (i + 1) (by omega) h9 q (by omega) h3
        exact fun i hi => g _ 0 (by omega) h i (Nat.zero_le _) hi
    · rw [if_neg h0] at h; exact absurd rfl h
  · intro ⟨h0, h⟩
    refine cc_of h0 (fun h2 => ?_)
    rcases h with h | h
    · exact absurd h h2
    · exact h
