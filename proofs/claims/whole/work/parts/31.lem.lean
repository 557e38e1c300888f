theorem zLv.npl {T : Nat} {c : Nat → Nat → Int32} (h : zLv T (c 112)) {k : Nat} (x : Int32) (hk : k < 640 ∨ 704 ≤ k) : zLv T (zup c 112 k x 112) := fun u hu => by
  have e : ∀ q, q < 16 → zup c 112 k x 112 (640 + 16 * u + q) = c 112 (640 + 16 * u + q) := fun q hq => by
    rw [zup_at, if_neg (fun z => by omega)]
  rw [e 0 (by decide), e 1 (by decide), e 8 (by decide), e 10 (by decide), e 5 (by decide)]
  exact h u hu
theorem zLv.filtered {T : Nat} {c : Nat → Nat → Int32} (h : zLv T (c 112)) {t : Nat} (ht : t < 10) : zLv T ((m_X7_filtered c t).2 112) := by
  unfold m_X7_filtered
  exact (h.npl _ (by omega)).npl _ (by omega)
theorem zLv.sung {T : Nat} {c : Nat → Nat → Int32} (h : zLv T (c 112)) (hT : T + 4 < 2 ^ 30) : zLv (T + 4) ((m_X7_sung c).2 112) := by
  have g : ∀ (n i : Nat) (x : Int32) (c1 : Nat → Nat → Int32), i + n = 4 → zLv (T + i) (c1 112) → zLv (T + 4) ((g1_X7_sung c n i x c1 (fun _ x c1 => (x, c1))).2 112) := by
    intro n
    induction n with
    | zero => intro i x c1 hi h1; rw [g1_X7_sung]; exact h1.mono (by omega)
    | succ n ih => intro i x c1 hi h1; rw [g1_X7_sung]; exact ih _ _ _ (by omega) (h1.sings (by omega) (by omega))
  exact g 4 0 0 c (by omega) h
theorem zLv.sounds {T : Nat} {c : Nat → Nat → Int32} (h : zLv T (c 112)) {t : Nat} (ht : t < 10) (hT : T + 4 < 2 ^ 30) : zLv (T + 4) ((m_X7_sounds c t).2 112) := by
  unfold m_X7_sounds
  split
  · dsimp only
    exact h.sung hT
  · split
    · dsimp only
      exact (h.filtered ht).mono (by omega)
    · split
      · exact h.mono (by omega)
      · exact h.mono (by omega)
theorem zrem {y : Int32} {a : Nat} (ha : a < 2 ^ 31) (hy : 1 ≤ zn y) (hy2 : zn y < 2 ^ 31) : nI a - nI a / y * y = nI (a % zn y) := by
  have h := pk_rem (a := a) (d := zn y) ha hy hy2
  rwa [← zn_eq] at h
