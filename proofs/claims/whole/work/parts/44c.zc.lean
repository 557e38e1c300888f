/-- what the cells hold at the start -/
def zz0 : Nat → Int32 := fun _ => 0
def c0 (i : Nat) : Nat → Int32 := if i = 0 then upd zz0 6 115 else if i = 1 then upd zz0 0 1 else if i = 2 then upd zz0 0 118 else if i = 111 then upd (upd (upd zz0 13 1) 15 115) 18 1000 else if i = 123 then upd zz0 0 1 else if i = 37 ∨ i = 39 ∨ i = 41 ∨ i = 43 ∨ i = 73 ∨ i = 75 ∨ i = 77 ∨ i = 79 then upd zz0 4 115 else zz0
def w0 : Nat → Int64 := fun _ => 0
def en0 (b i : Nat) : Nat := if i = 0 then b + 110 else b + (i + 1)
def ea0 : Nat → Nat → Int32 := fun _ => upd zz0 2 1000
def zev0 : va_E := .inr (4, [.int 0, .int 0, .int 1000, .int 0])
def zc0 (E : zE) (b i : Nat) : va_E := match zcell E b i (c0 i) (w0 i) (en0 b i) with
  | some e => e
  | none => zev0
def zfill (E : zE) (b lo hi : Nat) (F : Nat → va_E) : Nat → va_E := fun i => if lo ≤ i ∧ i < hi then zc0 E b i else F i
theorem zc0_H {E : zE} {b : Nat} {H : Heap} (h : zPic E b 126 (zc0 E b) H) : zH E b c0 w0 (en0 b) ea0 H := by
  refine ⟨fun i e0 hi hc => ?_, fun i hi => ?_⟩
  · have h1 := h.2 i hi
    have e : zc0 E b i = e0 := by unfold zc0; rw [hc]
    rwa [e] at h1
  · have g : ∀ j : Nat, j < 126 → zenv j = true → zc0 E b j = zev0 → zEv E b (b + j) (ea0 i) H := fun j hj hz he => by
      refine ⟨Nat.le_add_right b j, fun j1 hj1 hz1 q => ?_, ?_⟩
      · have : j = j1 := by omega
        rw [this] at hz; rw [hz] at hz1; cases hz1
      · have h1 := h.2 j hj
        rw [he] at h1
        exact h1
    unfold zhold at hi
    simp only [Bool.or_eq_true, beq_iff_eq] at hi
    rcases hi with (((((((rfl | rfl) | rfl) | rfl) | rfl) | rfl) | rfl) | rfl) | rfl
    · exact g 110 (by decide) rfl rfl
    · exact g 38 (by decide) rfl rfl
    · exact g 40 (by decide) rfl rfl
    · exact g 42 (by decide) rfl rfl
    · exact g 44 (by decide) rfl rfl
    · exact g 74 (by decide) rfl rfl
    · exact g 76 (by decide) rfl rfl
    · exact g 78 (by decide) rfl rfl
    · exact g 80 (by decide) rfl rfl
