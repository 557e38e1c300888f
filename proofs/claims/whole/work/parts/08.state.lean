/-! the layout: cell i lies at b + i -/
abbrev zF : Type := (Nat → Int32) → Int64 → Nat → Option va_E
def zLay0 (E : zE) (b : Nat) : List zF := [fun x w e => some (.inr (8, [.ref (b + 1), .ref (b + 34), .ref (b + 70), .ref (b + 106), .ref (b + 108), .ref (b + 109), .int (x 6), .ref e])),
  fun x w e => some (.inr (2, [.int (x 0), .int (x 1), .ref (b + 2), .ref (b + 3), .ref (b + 4), .ref (b + 5), .ref (b + 6), .ref (b + 7), .ref (b + 8), .ref (b + 9), .ref (b + 10), .ref (b + 11), .ref (b + 22), .ref (b + 33)])),
  fun x _ _ => some (.inl (E.2 0, 10, .inl x)),
  fun x _ _ => some (.inl (E.2 1, 10, .inl x)),
  fun x _ _ => some (.inl (E.2 1, 10, .inl x)),
  fun x _ _ => some (.inl (E.2 1, 10, .inl x)),
  fun x _ _ => some (.inl (E.2 1, 10, .inl x)),
  fun x _ _ => some (.inl (E.2 1, 10, .inl x)),
  fun x _ _ => some (.inl (E.2 1, 10, .inl x)),
  fun x _ _ => some (.inl (E.2 1, 10, .inl x)),
  fun x _ _ => some (.inl (E.2 1, 10, .inl x)),
  fun _ _ _ => some (.inl (E.2 4, 10, .inr (.inr (.inr (.inr (fun j => if j < 10 then some (b + (12 + j)) else none)))))),
  fun x _ _ => some (.inl (E.2 1, 4, .inl x)),
  fun x _ _ => some (.inl (E.2 1, 4, .inl x)),
  fun x _ _ => some (.inl (E.2 1, 4, .inl x)),
  fun x _ _ => some (.inl (E.2 1, 4, .inl x)),
  fun x _ _ => some (.inl (E.2 1, 4, .inl x)),
  fun x _ _ => some (.inl (E.2 1, 4, .inl x))]
def zLay1 (E : zE) (b : Nat) : List zF := [fun x _ _ => some (.inl (E.2 1, 4, .inl x)),
  fun x _ _ => some (.inl (E.2 1, 4, .inl x)),
  fun x _ _ => some (.inl (E.2 1, 4, .inl x)),
  fun x _ _ => some (.inl (E.2 1, 4, .inl x)),
  fun _ _ _ => some (.inl (E.2 4, 10, .inr (.inr (.inr (.inr (fun j => if j < 10 then some (b + (23 + j)) else none)))))),
  fun x _ _ => some (.inl (E.2 1, 4, .inl x)),
  fun x _ _ => some (.inl (E.2 1, 4, .inl x)),
  fun x _ _ => some (.inl (E.2 1, 4, .inl x)),
  fun x _ _ => some (.inl (E.2 1, 4, .inl x)),
  fun x _ _ => some (.inl (E.2 1, 4, .inl x)),
  fun x _ _ => some (.inl (E.2 1, 4, .inl x)),
  fun x _ _ => some (.inl (E.2 1, 4, .inl x)),
  fun x _ _ => some (.inl (E.2 1, 4, .inl x)),
  fun x _ _ => some (.inl (E.2 1, 4, .inl x)),
  fun x _ _ => some (.inl (E.2 1, 4, .inl x)),
  fun x _ _ => some (.inl (E.2 1, 10, .inl x)),
  fun x w e => some (.inr (6, [.ref (b + 1), .ref (b + 35), .ref (b + 45), .ref (b + 56), .ref (b + 57), .ref (b + 58), .ref (b + 69)])),
  fun x w e => some (.inr (3, [.ref (b + 36), .int (x 1), .int (x 2)]))]
def zLay2 (E : zE) (b : Nat) : List zF := [fun _ _ _ => some (.inl (E.2 3, 4, .inr (.inr (.inr (.inr (fun j => if j < 4 then some (b + (37 + 2 * j)) else none)))))),
  fun x w e => some (.inr (7, [.int (x 0), .int (x 1), .int (x 2), .int (x 3), .int (x 4), .ref e, .int (x 6), .int (x 7), .int (x 8), .int (x 9), .int (x 10), .int (x 11), .int (x 12)])),
  fun _ _ _ => none,
  fun x w e => some (.inr (7, [.int (x 0), .int (x 1), .int (x 2), .int (x 3), .int (x 4), .ref e, .int (x 6), .int (x 7), .int (x 8), .int (x 9), .int (x 10), .int (x 11), .int (x 12)])),
  fun _ _ _ => none,
  fun x w e => some (.inr (7, [.int (x 0), .int (x 1), .int (x 2), .int (x 3), .int (x 4), .ref e, .int (x 6), .int (x 7), .int (x 8), .int (x 9), .int (x 10), .int (x 11), .int (x 12)])),
  fun _ _ _ => none,
  fun x w e => some (.inr (7, [.int (x 0), .int (x 1), .int (x 2), .int (x 3), .int (x 4), .ref e, .int (x 6), .int (x 7), .int (x 8), .int (x 9), .int (x 10), .int (x 11), .int (x 12)])),
  fun _ _ _ => none,
  fun _ _ _ => some (.inl (E.2 4, 10, .inr (.inr (.inr (.inr (fun j => if j < 10 then some (b + (46 + j)) else none)))))),
  fun x _ _ => some (.inl (E.2 1, 64, .inl x)),
  fun x _ _ => some (.inl (E.2 1, 64, .inl x)),
  fun x _ _ => some (.inl (E.2 1, 64, .inl x)),
  fun x _ _ => some (.inl (E.2 1, 64, .inl x)),
  fun x _ _ => some (.inl (E.2 1, 64, .inl x)),
  fun x _ _ => some (.inl (E.2 1, 64, .inl x)),
  fun x _ _ => some (.inl (E.2 1, 64, .inl x)),
  fun x _ _ => some (.inl (E.2 1, 64, .inl x))]
def zLay3 (E : zE) (b : Nat) : List zF := [fun x _ _ => some (.inl (E.2 1, 64, .inl x)),
  fun x _ _ => some (.inl (E.2 1, 64, .inl x)),
  fun x _ _ => some (.inl (E.2 1, 10, .inl x)),
  fun x _ _ => some (.inl (E.2 1, 10, .inl x)),
  fun _ _ _ => some (.inl (E.2 4, 10, .inr (.inr (.inr (.inr (fun j => if j < 10 then some (b + (59 + j)) else none)))))),
  fun x _ _ => some (.inl (E.2 1, 60, .inl x)),
  fun x _ _ => some (.inl (E.2 1, 60, .inl x)),
  fun x _ _ => some (.inl (E.2 1, 60, .inl x)),
  fun x _ _ => some (.inl (E.2 1, 60, .inl x)),
  fun x _ _ => some (.inl (E.2 1, 60, .inl x)),
  fun x _ _ => some (.inl (E.2 1, 60, .inl x)),
  fun x _ _ => some (.inl (E.2 1, 60, .inl x)),
  fun x _ _ => some (.inl (E.2 1, 60, .inl x)),
  fun x _ _ => some (.inl (E.2 1, 60, .inl x)),
  fun x _ _ => some (.inl (E.2 1, 60, .inl x)),
  fun x _ _ => some (.inl (E.2 1, 10, .inl x)),
  fun x w e => some (.inr (6, [.ref (b + 1), .ref (b + 71), .ref (b + 81), .ref (b + 92), .ref (b + 93), .ref (b + 94), .ref (b + 105)])),
  fun x w e => some (.inr (3, [.ref (b + 72), .int (x 1), .int (x 2)]))]
def zLay4 (E : zE) (b : Nat) : List zF := [fun _ _ _ => some (.inl (E.2 3, 4, .inr (.inr (.inr (.inr (fun j => if j < 4 then some (b + (73 + 2 * j)) else none)))))),
  fun x w e => some (.inr (7, [.int (x 0), .int (x 1), .int (x 2), .int (x 3), .int (x 4), .ref e, .int (x 6), .int (x 7), .int (x 8), .int (x 9), .int (x 10), .int (x 11), .int (x 12)])),
  fun _ _ _ => none,
  fun x w e => some (.inr (7, [.int (x 0), .int (x 1), .int (x 2), .int (x 3), .int (x 4), .ref e, .int (x 6), .int (x 7), .int (x 8), .int (x 9), .int (x 10), .int (x 11), .int (x 12)])),
  fun _ _ _ => none,
  fun x w e => some (.inr (7, [.int (x 0), .int (x 1), .int (x 2), .int (x 3), .int (x 4), .ref e, .int (x 6), .int (x 7), .int (x 8), .int (x 9), .int (x 10), .int (x 11), .int (x 12)])),
  fun _ _ _ => none,
  fun x w e => some (.inr (7, [.int (x 0), .int (x 1), .int (x 2), .int (x 3), .int (x 4), .ref e, .int (x 6), .int (x 7), .int (x 8), .int (x 9), .int (x 10), .int (x 11), .int (x 12)])),
  fun _ _ _ => none,
  fun _ _ _ => some (.inl (E.2 4, 10, .inr (.inr (.inr (.inr (fun j => if j < 10 then some (b + (82 + j)) else none)))))),
  fun x _ _ => some (.inl (E.2 1, 64, .inl x)),
  fun x _ _ => some (.inl (E.2 1, 64, .inl x)),
  fun x _ _ => some (.inl (E.2 1, 64, .inl x)),
  fun x _ _ => some (.inl (E.2 1, 64, .inl x)),
  fun x _ _ => some (.inl (E.2 1, 64, .inl x)),
  fun x _ _ => some (.inl (E.2 1, 64, .inl x)),
  fun x _ _ => some (.inl (E.2 1, 64, .inl x)),
  fun x _ _ => some (.inl (E.2 1, 64, .inl x))]
def zLay5 (E : zE) (b : Nat) : List zF := [fun x _ _ => some (.inl (E.2 1, 64, .inl x)),
  fun x _ _ => some (.inl (E.2 1, 64, .inl x)),
  fun x _ _ => some (.inl (E.2 1, 10, .inl x)),
  fun x _ _ => some (.inl (E.2 1, 10, .inl x)),
  fun _ _ _ => some (.inl (E.2 4, 10, .inr (.inr (.inr (.inr (fun j => if j < 10 then some (b + (95 + j)) else none)))))),
  fun x _ _ => some (.inl (E.2 1, 60, .inl x)),
  fun x _ _ => some (.inl (E.2 1, 60, .inl x)),
  fun x _ _ => some (.inl (E.2 1, 60, .inl x)),
  fun x _ _ => some (.inl (E.2 1, 60, .inl x)),
  fun x _ _ => some (.inl (E.2 1, 60, .inl x)),
  fun x _ _ => some (.inl (E.2 1, 60, .inl x)),
  fun x _ _ => some (.inl (E.2 1, 60, .inl x)),
  fun x _ _ => some (.inl (E.2 1, 60, .inl x)),
  fun x _ _ => some (.inl (E.2 1, 60, .inl x)),
  fun x _ _ => some (.inl (E.2 1, 60, .inl x)),
  fun x _ _ => some (.inl (E.2 1, 10, .inl x)),
  fun x w e => some (.inr (5, [.ref (b + 107), .int (x 1), .int (x 2), .long w, .int (x 4)])),
  fun x _ _ => some (.inl (E.2 1, 64, .inl x))]
def zLay6 (E : zE) (b : Nat) : List zF := [fun x _ _ => some (.inl (E.2 1, 64, .inl x)),
  fun x _ _ => some (.inl (E.2 1, 64, .inl x)),
  fun _ _ _ => none,
  fun x w e => some (.inr (9, [.ref (b + 112), .ref (b + 113), .ref (b + 114), .ref (b + 115), .ref (b + 116), .ref (b + 117), .ref (b + 118), .ref (b + 119), .ref (b + 120), .ref (b + 121), .ref (b + 122), .ref (b + 123), .int (x 12), .int (x 13), .int (x 14), .int (x 15), .int (x 16), .int (x 17), .int (x 18), .int (x 19), .int (x 20), .int (x 21), .int (x 22), .int (x 23), .int (x 24), .long w])),
  fun x _ _ => some (.inl (E.2 1, 704, .inl x)),
  fun x _ _ => some (.inl (E.2 1, 704, .inl x)),
  fun x _ _ => some (.inl (E.2 1, 10, .inl x)),
  fun x _ _ => some (.inl (E.2 1, 10, .inl x)),
  fun x _ _ => some (.inl (E.2 1, 10, .inl x)),
  fun x _ _ => some (.inl (E.2 1, 10, .inl x)),
  fun x _ _ => some (.inl (E.2 1, 40, .inl x)),
  fun x _ _ => some (.inl (E.2 1, 40, .inl x)),
  fun x _ _ => some (.inl (E.2 1, 10, .inl x)),
  fun x _ _ => some (.inl (E.2 1, 10, .inl x)),
  fun x _ _ => some (.inl (E.2 1, 64, .inl x)),
  fun x _ _ => some (.inl (E.2 2, 10, .inl x)),
  fun _ w _ => some (.inl (E.2 5, 1, .inr (.inl (fun _ => w)))),
  fun _ w _ => some (.inl (E.2 6, 1, .inr (.inr (.inr (.inl (fun _ => w.toUInt64))))))]
def zLay (E : zE) (b : Nat) : List zF := zLay0 E b ++ (zLay1 E b ++ (zLay2 E b ++ (zLay3 E b ++ (zLay4 E b ++ (zLay5 E b ++ (zLay6 E b))))))
def zcell (E : zE) (b i : Nat) (x : Nat → Int32) (w : Int64) (e : Nat) : Option va_E := match (zLay E b)[i]? with
  | some f => f x w e
  | none => none
def zenv (i : Nat) : Bool := i == 38 || i == 40 || i == 42 || i == 44 || i == 74 || i == 76 || i == 78 || i == 80 || i == 110
def zhold (i : Nat) : Bool := i == 0 || i == 37 || i == 39 || i == 41 || i == 43 || i == 73 || i == 75 || i == 77 || i == 79
/-- an envelope's object at q -/
def zEv (E : zE) (b q : Nat) (x : Nat → Int32) (H : Heap) : Prop := b ≤ q ∧ (∀ j, j < 126 → zenv j = false → q ≠ b + j) ∧ va_at E.1 vwCl (q, .inr (4, [.int (x 0), .int (x 1), .int (x 2), .int (x 3)])) H
/-- the system's picture: c what the cells hold, w their long, en where a holder's envelope lies, ea what that holds -/
def zH (E : zE) (b : Nat) (c : Nat → Nat → Int32) (w : Nat → Int64) (en : Nat → Nat) (ea : Nat → Nat → Int32) (H : Heap) : Prop :=
  (∀ (i : Nat) (e0 : va_E), i < 126 → zcell E b i (c i) (w i) (en i) = some e0 → va_at E.1 vwCl (b + i, e0) H) ∧ ∀ i : Nat, zhold i = true → zEv E b (en i) (ea i) H
theorem zH.to {E : zE} {b : Nat} {c c' : Nat → Nat → Int32} {w w' : Nat → Int64} {en : Nat → Nat} {ea : Nat → Nat → Int32} {H : Heap} (h : zH E b c w en ea H) (h1 : ∀ i, i < 126 → zcell E b i (c' i) (w' i) (en i) = zcell E b i (c i) (w i) (en i)) : zH E b c' w' en ea H := ⟨fun i e0 hi hc => h.1 i e0 hi ((h1 i hi) ▸ hc), h.2⟩
theorem zEv.kept {E : zE} {b q : Nat} {x : Nat → Int32} {H H1 : Heap} (h : zEv E b q x H) (hq : H1[q]? = H[q]?) : zEv E b q x H1 := ⟨h.1, h.2.1, h.2.2.kept hq⟩
/-- one cell is written -/
theorem zH.set {E : zE} {b : Nat} {c : Nat → Nat → Int32} {w : Nat → Int64} {en : Nat → Nat} {ea : Nat → Nat → Int32} {H H1 : Heap} (h : zH E b c w en ea H) {i : Nat} (hi : i < 126) (hz : zenv i = false) {x : Nat → Int32} {w1 : Int64} {e1 : va_E} (hc : zcell E b i x w1 (en i) = some e1) (hat : va_at E.1 vwCl (b + i, e1) H1) (oq : ∀ q : Nat, q ≠ b + i → H1[q]? = H[q]?) : zH E b (va_up c i x) (va_up w i w1) en ea H1 := by
  refine ⟨fun j e0 hj hcj => ?_, fun j hj => (h.2 j hj).kept (oq _ ((h.2 j hj).2.1 i hi hz))⟩
  by_cases hji : j = i
  · subst hji
    rw [va_up_self, va_up_self, hc] at hcj
    cases hcj
    exact hat
  · rw [va_up_ne _ _ hji, va_up_ne _ _ hji] at hcj
    exact (h.1 j e0 hj hcj).kept (oq _ (by show b + j ≠ b + i; omega))
theorem zup_w {w : Nat → Int64} {i : Nat} : va_up w i (w i) = w := by
  funext j
  by_cases h : j = i
  · subst h; simp [va_up]
  · simp [va_up, h]
theorem zH.setc {E : zE} {b : Nat} {c : Nat → Nat → Int32} {w : Nat → Int64} {en : Nat → Nat} {ea : Nat → Nat → Int32} {H H1 : Heap} (h : zH E b c w en ea H) {i : Nat} (hi : i < 126) (hz : zenv i = false) {x : Nat → Int32} {e1 : va_E} (hc : zcell E b i x (w i) (en i) = some e1) (hat : va_at E.1 vwCl (b + i, e1) H1) (oq : ∀ q : Nat, q ≠ b + i → H1[q]? = H[q]?) : zH E b (va_up c i x) w en ea H1 := by
  have h9 := h.set hi hz hc hat oq
  rwa [zup_w] at h9
/-- one cell with its envelope -/
theorem zH.sete {E : zE} {b : Nat} {c : Nat → Nat → Int32} {w : Nat → Int64} {en : Nat → Nat} {ea : Nat → Nat → Int32} {H H1 : Heap} (h : zH E b c w en ea H) {i q : Nat} {x : Nat → Int32} (hi : i < 126) (hz : zenv i = false) (hv : zEv E b q x H) {e1 : va_E} (hc : zcell E b i (c i) (w i) q = some e1) (hat : va_at E.1 vwCl (b + i, e1) H1) (oq : ∀ q : Nat, q ≠ b + i → H1[q]? = H[q]?) : zH E b c w (va_up en i q) (va_up ea i x) H1 := by
  refine ⟨fun j e0 hj hcj => ?_, fun j hj => ?_⟩
  · by_cases hji : j = i
    · subst hji
      rw [va_up_self, hc] at hcj
      cases hcj
      exact hat
    · rw [va_up_ne _ _ hji] at hcj
      exact (h.1 j e0 hj hcj).kept (oq _ (by show b + j ≠ b + i; omega))
  · by_cases hji : j = i
    · subst hji
      rw [va_up_self, va_up_self]
      exact hv.kept (oq _ (hv.2.1 j hi hz))
    · rw [va_up_ne _ _ hji, va_up_ne _ _ hji]
      exact (h.2 j hj).kept (oq _ ((h.2 j hj).2.1 i hi hz))
theorem zone {D : va_G} {cl : List vw_C} {x : Nat × va_E} {H : Heap} (h : va_at D cl x H) : va_P D cl [x] H := fun k q hq => by
  cases k with
  | zero => cases hq; exact h
  | succ k => simp at hq
theorem zarr {cI : ClassId} {N : Nat} {f g : Nat → Value} (h : ∀ j, j < N → f j = g j) : arrV cI N f = arrV cI N g := by
  unfold arrV
  congr 1
  apply Array.ext
  · simp
  · intro i h1 h2
    simp at h1
    simp [h i h1]
section ZW
variable {p : Program} {l : Launch} {e : Env} {R : Room} {s : State} {m : MethodId} {args : Array Value} {below : List Frame} {meth : Method} {c : Code} {Q : State → Prop} {nL b : Nat} {pc : Nat} {L : List (Nat × Value)} {rest : List Value} {k n : Nat}
variable {cc : ByteArray} {own : String} {E : zE} {H : Heap} {locs : List Loc} {ls : Array Slot}
/-- a field is written: the rest of the heap stays -/
theorem zr_put (B : zC p s m args meth c cc nL own E b) {C : String} {T : u_T} {N ci index a : Nat} {fs : List Value} {v : Value} {ty : FieldType} (hin : ∀ w ∈ u_ws C T N, w ∈ zAll) (ty0 : Nat → FieldType) (hty : ∀ j, j < N → parseFieldDescriptor (T j).2.2.1 = some (ty0 j)) (hnm : ∀ i, i < N → ∀ j, j < N → i ≠ j → (T i).2.1 ≠ (T j).2.1) (hc : vwCl[ci]? = some (C, T, N)) (f : Nat) (hf : f < N) (hlink : (Cond.fieldLink own index (T f).1 (T f).2.1 (T f).2.2.1).before args s = true) (hfin : (T f).2.2.2 = false) (hd : parseFieldDescriptor (T f).2.2.1 = some ty) (hn9 : narrow ty v = v) (hfit : fits ty v = true) (hl : f < fs.length) (d : decode cc pc = .ok (.putfield index, 3)) (hS : va_S (zA b) s.heap H locs) (ha : b ≤ a) (hat : va_at E.1 vwCl (a, .inr (ci, fs)) H)
    (kk : ∀ (H1 : Heap) (locs1 : List Loc), va_at E.1 vwCl (a, .inr (ci, fs.set f v)) H1 → (∀ q : Nat, q ≠ a → H1[q]? = H[q]?) → va_S (zA b) s.heap H1 locs1 → W p l e R s m args below meth c H1 locs1 k n Q (F0 m (pc + 3) ls rest)) : W p l e R s m args below meth c H locs k n Q (F0 m pc ls (v :: .ref a :: rest)) := by
  have hK := B.2.2.2.2.2.1.1
  have hap := va_apart (own := own) B.2.2.2.2.1 hin ty0 hty hnm hK hc
  obtain ⟨r, h1, cell, q1, q2, q3, q4⟩ := hat
  have hr : r = (C, T, N) := Option.some.inj (h1.symm.trans hc)
  subst hr
  obtain ⟨hSl, hfc, kC, hkC, hkind⟩ := hK.1 ci _ hc
  obtain ⟨cf, kf, fi, fd, hi, hsl⟩ := hSl f hf
  have hlay := B.2.2.2.2.1 _ (hin _ (u_in_lay hf))
  unfold u_lay at hlay
  rw [if_neg (by rw [hfin]; decide)] at hlay
  have hst := (u_facts hfc hkC (u_lays B.2.2.2.2.1 hin hf) hi).1
  have h6 := u_store hfc hkC hkind hlay hi hd hn9 hfit
  refine W.putK B.1 B.2.1 (f := fd) ⟨B.2.2.2.1, hlink, ⟨_, _, _, hi⟩, hst⟩ (by rw [q2]; exact h6) q1 q3 (by rw [hsl]; exact k2_hasslot (q4 f hf)) rfl rfl d fun H' e1 e2 e3 => ?_
  rw [hsl] at e1 ⊢
  exact kk H' _ ⟨_, hc, t_OB.to (V := updV (vp_V fs) f v) ⟨_, e1, q2, q3, t_set q4 hap hf v⟩ (fun j _ => vp_updV_set hl v j)⟩ e3 (hS.put e2 e3 ha)

theorem zr_iast (B : zC p s m args meth c cc nL own E b) {a N jj : Nat} {j x : Int32} {f : Nat → Int32} (hj : j = nI jj) (hlt : jj < N) (hN : N < 2 ^ 31) (d : decode cc pc = .ok (.iastore, 1)) (hS : va_S (zA b) s.heap H locs) (ha : b ≤ a) (hat : va_at E.1 vwCl (a, .inl (E.2 1, N, .inl f)) H)
    (kk : ∀ (H1 : Heap) (locs1 : List Loc), va_at E.1 vwCl (a, .inl (E.2 1, N, .inl (upd f jj x))) H1 → (∀ q : Nat, q ≠ a → H1[q]? = H[q]?) → va_S (zA b) s.heap H1 locs1 → W p l e R s m args below meth c H1 locs1 k n Q (F0 m (pc + 1) ls rest)) : W p l e R s m args below meth c H locs k n Q (F0 m pc ls (.int x :: .int j :: .ref a :: rest)) := by
  subst hj
  have hjn : (nI jj).toNatClampNeg = jj := nI_clamp (Nat.lt_trans hlt hN)
  have hin : vp_in (nI jj) N := vp_in_nI hlt hN
  refine W.iast B.1 B.2.1 hat ((B.2.2.2.2.2.1.1.2 1 _ rfl).1 N (fun j => .int (f j))) (fun q => by cases q) (by show ¬ (nI jj < 0 ∨ (arrV _ _ _).slots.size ≤ _); rw [arrV_size]; exact hin) rfl rfl d fun H1 e1 z oq => ?_
  refine kk H1 _ ?_ oq (hS.put z oq ha)
  show H1[a]? = some (vp_cell _ _)
  rw [e1, vp_cell_i, vp_cell_i, hjn, arrV_store]
  congr 2
  funext q
  by_cases hq : q = jj
  · subst hq
    simp [updV, upd]
  · simp [updV, upd, hq]
theorem zr_cast (B : zC p s m args meth c cc nL own E b) {a N jj : Nat} {j x : Int32} {f : Nat → Int32} (hj : j = nI jj) (hlt : jj < N) (hN : N < 2 ^ 31) (hnar : narrow .char (.int x) = .int x) (d : decode cc pc = .ok (.castore, 1)) (hS : va_S (zA b) s.heap H locs) (ha : b ≤ a) (hat : va_at E.1 vwCl (a, .inl (E.2 0, N, .inl f)) H)
    (kk : ∀ (H1 : Heap) (locs1 : List Loc), va_at E.1 vwCl (a, .inl (E.2 0, N, .inl (upd f jj x))) H1 → (∀ q : Nat, q ≠ a → H1[q]? = H[q]?) → va_S (zA b) s.heap H1 locs1 → W p l e R s m args below meth c H1 locs1 k n Q (F0 m (pc + 1) ls rest)) : W p l e R s m args below meth c H locs k n Q (F0 m pc ls (.int x :: .int j :: .ref a :: rest)) := by
  subst hj
  have hjn : (nI jj).toNatClampNeg = jj := nI_clamp (Nat.lt_trans hlt hN)
  have hin : vp_in (nI jj) N := vp_in_nI hlt hN
  refine W.cast B.1 B.2.1 hat ((B.2.2.2.2.2.1.1.2 0 _ rfl).1 N (fun j => .int (f j))) (fun q => by cases q) (by show ¬ (nI jj < 0 ∨ (arrV _ _ _).slots.size ≤ _); rw [arrV_size]; exact hin) rfl rfl d fun H1 e1 z oq => ?_
  refine kk H1 _ ?_ oq (hS.put z oq ha)
  show H1[a]? = some (vp_cell _ _)
  rw [e1, vp_cell_i, vp_cell_i, hjn, hnar, arrV_store]
  congr 2
  funext q
  by_cases hq : q = jj
  · subst hq
    simp [updV, upd]
  · simp [updV, upd, hq]
theorem zr_zast (B : zC p s m args meth c cc nL own E b) {a N jj : Nat} {j x : Int32} {f : Nat → Int32} (hj : j = nI jj) (hlt : jj < N) (hN : N < 2 ^ 31) (hnar : narrow .boolean (.int x) = .int x) (d : decode cc pc = .ok (.bastore, 1)) (hS : va_S (zA b) s.heap H locs) (ha : b ≤ a) (hat : va_at E.1 vwCl (a, .inl (E.2 2, N, .inl f)) H)
    (kk : ∀ (H1 : Heap) (locs1 : List Loc), va_at E.1 vwCl (a, .inl (E.2 2, N, .inl (upd f jj x))) H1 → (∀ q : Nat, q ≠ a → H1[q]? = H[q]?) → va_S (zA b) s.heap H1 locs1 → W p l e R s m args below meth c H1 locs1 k n Q (F0 m (pc + 1) ls rest)) : W p l e R s m args below meth c H locs k n Q (F0 m pc ls (.int x :: .int j :: .ref a :: rest)) := by
  subst hj
  have hjn : (nI jj).toNatClampNeg = jj := nI_clamp (Nat.lt_trans hlt hN)
  have hin : vp_in (nI jj) N := vp_in_nI hlt hN
  refine W.zast B.1 B.2.1 hat ((B.2.2.2.2.2.1.1.2 2 _ rfl).1 N (fun j => .int (f j))) (fun q => by cases q) (by show ¬ (nI jj < 0 ∨ (arrV _ _ _).slots.size ≤ _); rw [arrV_size]; exact hin) rfl rfl d fun H1 e1 z oq => ?_
  refine kk H1 _ ?_ oq (hS.put z oq ha)
  show H1[a]? = some (vp_cell _ _)
  rw [e1, vp_cell_i, vp_cell_i, hjn, hnar, arrV_store]
  congr 2
  funext q
  by_cases hq : q = jj
  · subst hq
    simp [updV, upd]
  · simp [updV, upd, hq]
theorem zr_last (B : zC p s m args meth c cc nL own E b) {a N jj : Nat} {j : Int32} {x : Int64} {f g : Nat → Int64} (hj : j = nI jj) (hlt : jj < N) (hN : N < 2 ^ 31) (hg : ∀ q, q < N → g q = if q = jj then x else f q) (d : decode cc pc = .ok (.lastore, 1)) (hS : va_S (zA b) s.heap H locs) (ha : b ≤ a) (hat : va_at E.1 vwCl (a, .inl (E.2 5, N, .inr (.inl f))) H)
    (kk : ∀ (H1 : Heap) (locs1 : List Loc), va_at E.1 vwCl (a, .inl (E.2 5, N, .inr (.inl g))) H1 → (∀ q : Nat, q ≠ a → H1[q]? = H[q]?) → va_S (zA b) s.heap H1 locs1 → W p l e R s m args below meth c H1 locs1 k n Q (F0 m (pc + 1) ls rest)) : W p l e R s m args below meth c H locs k n Q (F0 m pc ls (.long x :: .int j :: .ref a :: rest)) := by
  subst hj
  have hjn : (nI jj).toNatClampNeg = jj := nI_clamp (Nat.lt_trans hlt hN)
  have hin : vp_in (nI jj) N := vp_in_nI hlt hN
  refine W.last B.1 B.2.1 hat ((B.2.2.2.2.2.1.1.2 5 _ rfl).1 N (fun j => .long (f j))) (fun q => by cases q) (by show ¬ (nI jj < 0 ∨ (arrV _ _ _).slots.size ≤ _); rw [arrV_size]; exact hin) rfl rfl d fun H1 e1 z oq => ?_
  refine kk H1 _ ?_ oq (hS.put z oq ha)
  show H1[a]? = some (vp_cell _ _)
  rw [e1, vp_cell_l, vp_cell_l, hjn, arrV_store]
  refine congrArg some (zarr ?_)
  intro q hq
  rw [hg q hq]
  by_cases h : q = jj
  · subst h
    simp [updV]
  · simp [updV, h]
theorem zr_dast (B : zC p s m args meth c cc nL own E b) {a N jj : Nat} {j : Int32} {x : UInt64} {f g : Nat → UInt64} (hj : j = nI jj) (hlt : jj < N) (hN : N < 2 ^ 31) (hg : ∀ q, q < N → g q = if q = jj then x else f q) (d : decode cc pc = .ok (.dastore, 1)) (hS : va_S (zA b) s.heap H locs) (ha : b ≤ a) (hat : va_at E.1 vwCl (a, .inl (E.2 6, N, .inr (.inr (.inr (.inl f))))) H)
    (kk : ∀ (H1 : Heap) (locs1 : List Loc), va_at E.1 vwCl (a, .inl (E.2 6, N, .inr (.inr (.inr (.inl g))))) H1 → (∀ q : Nat, q ≠ a → H1[q]? = H[q]?) → va_S (zA b) s.heap H1 locs1 → W p l e R s m args below meth c H1 locs1 k n Q (F0 m (pc + 1) ls rest)) : W p l e R s m args below meth c H locs k n Q (F0 m pc ls (.double x :: .int j :: .ref a :: rest)) := by
  subst hj
  have hjn : (nI jj).toNatClampNeg = jj := nI_clamp (Nat.lt_trans hlt hN)
  have hin : vp_in (nI jj) N := vp_in_nI hlt hN
  refine W.dast B.1 B.2.1 hat ((B.2.2.2.2.2.1.1.2 6 _ rfl).1 N (fun j => .double (f j))) (fun q => by cases q) (by show ¬ (nI jj < 0 ∨ (arrV _ _ _).slots.size ≤ _); rw [arrV_size]; exact hin) rfl rfl d fun H1 e1 z oq => ?_
  refine kk H1 _ ?_ oq (hS.put z oq ha)
  show H1[a]? = some (vp_cell _ _)
  rw [e1, vp_cell_d, vp_cell_d, hjn, arrV_store]
  refine congrArg some (zarr ?_)
  intro q hq
  rw [hg q hq]
  by_cases h : q = jj
  · subst h
    simp [updV]
  · simp [updV, h]
end ZW
