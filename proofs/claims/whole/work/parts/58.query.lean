theorem ro_in (x y z : Int32) : (m_X6_refuseOutside x y z = .inr () ∧ r_X7_in x y z = 1 ∧ ¬ x < y ∧ ¬ z < x) ∨ (m_X6_refuseOutside x y z = .inl "java/lang/IllegalArgumentException" ∧ r_X7_in x y z = 0) := by
  unfold m_X6_refuseOutside r_X7_in
  by_cases h1 : x < y
  · right; rw [if_pos h1, if_pos h1]; exact ⟨rfl, rfl⟩
  · rw [if_neg h1, if_neg h1]
    by_cases h2 : z < x
    · right; rw [if_neg (Int32.not_le.mpr h2), if_pos h2]; exact ⟨rfl, rfl⟩
    · left; rw [if_pos (Int32.not_lt.mp h2), if_neg h2]; exact ⟨rfl, rfl, h1, h2⟩
/-- inside a row of n places -/
theorem z_in {x n : Int32} (h1 : 1 ≤ zn n) (h2 : zn n < 2 ^ 31) : (¬ x < 0 ∧ x < n ∧ r_X7_in x 0 (n - 1) = 1 ∧ zn x < zn n) ∨ ((x < 0 ∨ (¬ x < 0 ∧ ¬ x < n)) ∧ r_X7_in x 0 (n - 1) = 0) := by
  unfold r_X7_in
  by_cases h : x < 0
  · right; rw [if_pos h]; exact ⟨Or.inl h, rfl⟩
  · obtain ⟨j, hj, rfl⟩ := nI_of h
    rw [if_neg h, zn_pred h1]
    by_cases h3 : j < zn n
    · left
      rw [if_neg (fun q => by have := (z_lt (a := zn n - 1) rfl rfl (by omega) hj).mp q; omega), zn_nI (by omega)]
      exact ⟨h, (z_lt rfl (zn_eq n) hj h2).mpr h3, rfl, h3⟩
    · right
      rw [if_pos ((z_lt (a := zn n - 1) rfl rfl (by omega) hj).mpr (by omega))]
      exact ⟨Or.inr ⟨h, fun q => h3 ((z_lt rfl (zn_eq n) hj h2).mp q)⟩, rfl⟩
theorem z_in0 {x n : Int32} (h2 : zn n < 2 ^ 31) : (¬ x < 0 ∧ x < n ∧ r_X7_in x 0 (n - 1) = 1 ∧ zn x < zn n) ∨ ((x < 0 ∨ (¬ x < 0 ∧ ¬ x < n)) ∧ r_X7_in x 0 (n - 1) = 0) := by
  by_cases h1 : 1 ≤ zn n
  · exact z_in h1 h2
  · have e : n = 0 := zn_inj (by show zn n = 0; omega)
    subst e
    right
    unfold r_X7_in
    by_cases h : x < 0
    · rw [if_pos h]; exact ⟨Or.inl h, rfl⟩
    · rw [if_neg h]
      obtain ⟨j, hj, rfl⟩ := nI_of h
      rw [if_pos (Int32.lt_of_lt_of_le (show (0 : Int32) - 1 < 0 by decide) ((z_le (a := 0) rfl rfl (by omega) hj).mpr (by omega)))]
      exact ⟨Or.inr ⟨h, h⟩, rfl⟩
theorem rn_is {c : Nat → Nat → Int32} (h : zI1 c) (x : Int32) : (m_X6_refuseNoNode c x = .inr () ∧ m_X7_isNode c x = 1 ∧ zn x < zn (c 1 0)) ∨ (m_X6_refuseNoNode c x = .inl "java/lang/IndexOutOfBoundsException" ∧ m_X7_isNode c x = 0) := by
  obtain ⟨e1, e2, e3, _⟩ := h
  unfold m_X6_refuseNoNode m_X7_isNode
  rw [e1]
  rcases z_in (x := x) e2 (by omega) with ⟨a1, a2, a3, a4⟩ | ⟨a1 | a1, a2⟩
  · left; rw [if_neg a1, if_pos a2]; exact ⟨rfl, a3, a4⟩
  · right; rw [if_pos a1]; exact ⟨rfl, a2⟩
  · right; rw [if_neg a1.1, if_neg a1.2]; exact ⟨rfl, a2⟩
theorem rv_is (x : Int32) : (m_X6_refuseNoVoice x = .inr () ∧ r_X7_isVoice x = 1 ∧ zn x < 4) ∨ (m_X6_refuseNoVoice x = .inl "java/lang/IndexOutOfBoundsException" ∧ r_X7_isVoice x = 0) := by
  unfold m_X6_refuseNoVoice r_X7_isVoice
  rcases z_in (x := x) (n := 4) (by decide) (by decide) with ⟨a1, a2, a3, a4⟩ | ⟨a1 | a1, a2⟩
  · left; rw [if_neg a1, if_pos a2]; exact ⟨rfl, a3, a4⟩
  · right; rw [if_pos a1]; exact ⟨rfl, a2⟩
  · right; rw [if_neg a1.1, if_neg a1.2]; exact ⟨rfl, a2⟩
theorem rw_is {c : Nat → Nat → Int32} {t : Nat} (h1 : c 120 t = c 10 t) (h4 : zn (c 10 t) ≤ 4) (y : Int32) : (m_X6_refuseNoWire c t y = .inr () ∧ r_X7_in y 0 (c 120 t - 1) = 1 ∧ zn y < zn (c 10 t)) ∨ (m_X6_refuseNoWire c t y = .inl "java/util/NoSuchElementException" ∧ r_X7_in y 0 (c 120 t - 1) = 0) := by
  unfold m_X6_refuseNoWire
  rw [h1]
  rcases z_in0 (x := y) (n := c 10 t) (by omega) with ⟨a1, a2, a3, a4⟩ | ⟨a1 | a1, a2⟩
  · left; rw [if_neg a1, if_pos a2]; exact ⟨rfl, a3, a4⟩
  · right; rw [if_pos a1]; exact ⟨rfl, a2⟩
  · right; rw [if_neg a1.1, if_neg a1.2]; exact ⟨rfl, a2⟩
theorem ck_one (c : Nat → Nat → Int32) : m_X7_checked c 1 = (0, zup c 111 12 0) := by
  unfold m_X7_checked; exact if_neg (by decide)
theorem ck_zero (c : Nat → Nat → Int32) : m_X7_checked c 0 = (1, zup c 111 12 1) := by
  unfold m_X7_checked; exact if_pos rfl
section
variable {j : Nat} {c : Nat → Nat → Int32} {w : Nat → Int64} {ea : Nat → Nat → Int32}
theorem zth (v : Int32) : ∀ i k, zRl i k → zup c 111 12 v i k = c i k := fun i k h => by
  rw [zup_at, if_neg (fun q => h.2.2.2.2.2.1 q)]
theorem q_ok (hI : zInv j c w ea) (hg : zG (zup c 111 12 0)) {v v' : Int32} (hv : v = v') : zup c 111 12 0 111 12 = 0 ∧ ((0 : Int32) = 0 → va_up w 124 v.toInt64 124 = v'.toInt64) ∧ zInv (j + 1) (zup c 111 12 0) (va_up w 124 v.toInt64) ea :=
  ⟨zup_s _ _ _ _, fun _ => by rw [hv]; simp [va_up], hI.congr (zth 0) hg ⟨rfl, rfl⟩ ⟨rfl, fun _ _ => rfl⟩⟩
theorem q_bad (hI : zInv j c w ea) {x : Int32} (hg : zG (zup c 111 12 x)) (hx : ¬ x = 0) {v' : Int32} : zup c 111 12 x 111 12 = x ∧ (x = 0 → w 124 = v'.toInt64) ∧ zInv (j + 1) (zup c 111 12 x) w ea :=
  ⟨zup_s _ _ _ _, fun h => absurd h hx, hI.congr (zth x) hg ⟨rfl, rfl⟩ ⟨rfl, fun _ _ => rfl⟩⟩
theorem q_dir (hI : zInv j c w ea) (hg : zG (zup c 111 12 0)) {α : Type} {v v' : α} (hv : v = v') : v = v' ∧ zInv (j + 1) (zup c 111 12 0) w ea := ⟨hv, hI.congr (zth 0) hg ⟨rfl, rfl⟩ ⟨rfl, fun _ _ => rfl⟩⟩
end
theorem pP_nodes : zP_nodes zInv := by
  intro j c w en ea hI hj hF hg
  exact q_dir hI hg hI.2.1.1.symm
theorem pP_stolen : zP_stolen zInv := by
  intro j c w en ea hI hj hF hg
  exact q_dir hI hg hI.2.2.2.2.2.2.2.2.1.2.2.2.2.2.2.2.2.2.1.symm
theorem pP_time : zP_time zInv := by
  intro j c w en ea hI hj hF hg
  exact q_dir hI hg hI.2.2.2.2.2.2.2.1.1.symm
theorem pP_greatest : zP_greatest zInv := by
  intro j c w en ea hI hj hF hg
  exact q_dir hI hg hI.2.2.2.2.2.2.2.1.2.1.symm
theorem pP_energy : zP_energy zInv := by
  intro j c w en ea hI hj hF hg
  exact q_dir hI hg hI.2.2.2.2.2.2.2.1.2.2.1.symm
