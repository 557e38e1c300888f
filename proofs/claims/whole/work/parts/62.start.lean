/-! the start, and all together -/
theorem upd_at (f : Nat → Int32) (k : Nat) (v : Int32) (q : Nat) : upd f k v q = if q = k then v else f q := rfl
theorem zG_c0 : zG c0 := by
  intro i k
  have z : ∀ q, zn (zz0 q) ≤ zBd i k := fun _ => Nat.zero_le _
  unfold c0
  by_cases h0 : i = 0
  · rw [if_pos h0, upd_at]; subst h0
    by_cases e : k = 6
    · rw [if_pos e]; exact (by decide : zn 115 ≤ 65535)
    · rw [if_neg e]; exact z k
  rw [if_neg h0]
  by_cases h1 : i = 1
  · rw [if_pos h1, upd_at]; subst h1
    by_cases e : k = 0
    · subst e; decide
    · rw [if_neg e]; exact z k
  rw [if_neg h1]
  by_cases h2 : i = 2
  · rw [if_pos h2, upd_at]; subst h2
    by_cases e : k = 0
    · rw [if_pos e]; exact (by decide : zn 118 ≤ 65535)
    · rw [if_neg e]; exact z k
  rw [if_neg h2]
  by_cases h3 : i = 111
  · rw [if_pos h3, upd_at, upd_at, upd_at]; subst h3
    by_cases e : k = 18
    · subst e; exact zn_T _
    · rw [if_neg e]
      by_cases e : k = 15
      · subst e; exact zn_T _
      · rw [if_neg e]
        by_cases e : k = 13
        · subst e; decide
        · rw [if_neg e]; exact z k
  rw [if_neg h3]
  by_cases h4 : i = 123
  · rw [if_pos h4, upd_at]; subst h4
    by_cases e : k = 0
    · subst e; decide
    · rw [if_neg e]; exact z k
  rw [if_neg h4]
  by_cases h5 : i = 37 ∨ i = 39 ∨ i = 41 ∨ i = 43 ∨ i = 73 ∨ i = 75 ∨ i = 77 ∨ i = 79
  · rw [if_pos h5, upd_at]
    by_cases e : k = 4
    · subst e
      rw [if_pos rfl]
      rcases h5 with h | h | h | h | h | h | h | h <;> (subst h; decide)
    · rw [if_neg e]; exact z k
  · rw [if_neg h5]; exact z k
theorem zInv_0 : zInv 0 c0 w0 ea0 := by
  have one : zn (c0 1 0) = 1 := by decide
  have kz : ∀ k, k < zn (c0 1 0) → k = 0 := fun k hk => by rw [one] at hk; omega
  refine ⟨zG_c0, ⟨rfl, by decide, by decide, rfl, by decide⟩, fun k hk => ?_, fun k hk => ?_, fun k hk => ?_, ⟨fun p hp => ?_, fun p q hp hq _ => by rw [kz p hp, kz q hq], fun x hx => ⟨0, by decide, ?_⟩, fun p hp _ i hi => ?_⟩, ⟨fun _ => 0, fun k hk _ i hi => absurd hi (Nat.not_lt_zero _)⟩, ⟨rfl, rfl, rfl, rfl, fun _ _ => rfl⟩, ⟨rfl, Or.inl rfl, rfl, rfl, rfl, rfl, by decide, by decide, by decide, rfl, rfl⟩, fun v hv => ?_, fun k hk => ?_, fun k hk hk10 => ?_, by decide, by decide, fun v hv => ⟨fun h => absurd (show (0 : Int32) = 1 from h) (by decide), Nat.zero_le _, Nat.zero_le _⟩⟩
  · rw [kz k hk]
    exact ⟨Or.inl ⟨rfl, rfl⟩, ⟨fun _ => rfl, fun _ => rfl⟩, fun h => absurd h (by decide), fun h => absurd h (by decide), fun h => absurd h (by decide), fun h => absurd h (by decide)⟩
  · exact ⟨rfl, rfl, rfl⟩
  · rw [kz k hk]
    exact ⟨rfl, by decide, fun i hi => absurd hi (Nat.not_lt_zero _)⟩
  · rw [kz p hp]; exact ⟨rfl, by decide⟩
  · rw [one] at hx
    exact zn_inj (by show 0 = zn x; omega)
  · rw [kz p hp] at hi; exact absurd hi (Nat.not_lt_zero _)
  · have h : v = 0 ∨ v = 1 ∨ v = 2 ∨ v = 3 := by omega
    rcases h with h | h | h | h <;> (subst h; exact ⟨rfl, Or.inl rfl, fun h => absurd h (by decide)⟩)
  · rw [kz k hk]
    exact ⟨rfl, fun h => absurd h (by decide), fun h => absurd h (by decide)⟩
  · have h : k = 1 ∨ k = 2 ∨ k = 3 ∨ k = 4 ∨ k = 5 ∨ k = 6 ∨ k = 7 ∨ k = 8 ∨ k = 9 := by rw [one] at hk; omega
    rcases h with h | h | h | h | h | h | h | h | h <;> (subst h; exact ⟨rfl, rfl, rfl, rfl, rfl, rfl, rfl, fun _ _ => ⟨rfl, rfl⟩⟩)
theorem zPall_inv : zPall zInv := ⟨pP_addGain, pP_addDelay, pP_addFilter, pP_addBus, pP_connect, pP_disconnect, pP_setGain, pP_setOutput, pP_nodes, pP_kindOf, pP_wires, pP_wireFrom, pP_wirePercent, pP_nodeAt, pP_longestBlock, pP_setWave, pP_setEnvelope, pP_begin, pP_end, pP_endAll, pP_sounding, pP_stateOf, pP_keyOf, pP_levelOf, pP_phaseOf, pP_stolen, pP_play, pP_step, pP_ahead, pP_aheadByBlocks, pP_heard, pP_outputOf, pP_time, pP_greatest, pP_energy, pP_meanEnergy, pP_quietShare, pP_isConsistent⟩
theorem whole_start {p : Program} {e : Env} {s : State} {m : MethodId} {below : List Frame} {meth : Method} {c : Code} (l : Launch) (hflags : l.flags = flags0) {b L : Nat} {xs : Nat → Int32} (hL : L ≤ 2560) (C0 : lw_At p s m meth c b L xs) : W p l e room_1 s m #[Value.ref b] below meth c s.heap [] 0 0 (lw_Z below #[Value.ref b] s) (entryFrame m ([Value.ref b] : List Value).toArray 9) :=
  start_of zInv_ok zInv_mono zPall_inv zInv_0 l hflags hL C0
