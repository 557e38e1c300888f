/-! the two sides, tied to each other -/
def zKd (a k : Int32) : Prop := (a = 118 ∧ k = 0) ∨ (a = 103 ∧ k = 1) ∨ (a = 100 ∧ k = 2) ∨ (a = 102 ∧ k = 3) ∨ (a = 98 ∧ k = 4)
def zI1 (c : Nat → Nat → Int32) : Prop := c 111 13 = c 1 0 ∧ 1 ≤ zn (c 1 0) ∧ zn (c 1 0) ≤ 10 ∧ c 111 14 = c 1 1 ∧ zn (c 1 1) < zn (c 1 0)
def zI2 (c : Nat → Nat → Int32) : Prop := ∀ k, k < zn (c 1 0) → zKd (c 2 k) (c 114 k) ∧ (c 114 k = 0 ↔ k = 0) ∧ (c 114 k = 1 → c 115 k = c 3 k) ∧ (c 114 k = 2 → c 115 k = c 4 k ∧ c 116 k = c 5 k ∧ 1 ≤ zn (c 4 k) ∧ zn (c 4 k) ≤ 60) ∧ (c 114 k = 3 → c 115 k = c 6 k ∧ c 116 k = c 7 k ∧ c 117 k = c 8 k) ∧ (c 114 k = 4 → c 115 k = c 9 k)
def zI2b (c : Nat → Nat → Int32) : Prop := ∀ k, zn (c 1 0) ≤ k → c 114 k = 0 ∧ c 120 k = 0 ∧ c 10 k = 0
def zI3 (c : Nat → Nat → Int32) : Prop := ∀ k, k < zn (c 1 0) → c 120 k = c 10 k ∧ zn (c 10 k) ≤ 4 ∧ ∀ i, i < zn (c 10 k) → c 118 (4 * k + i) = c (12 + k) i ∧ c 119 (4 * k + i) = c (23 + k) i ∧ zn (c (12 + k) i) < zn (c 1 0)
def zI4 (c : Nat → Nat → Int32) : Prop := (∀ p, p < zn (c 1 0) → c 121 p = c 33 p ∧ zn (c 33 p) < zn (c 1 0)) ∧ (∀ p q, p < zn (c 1 0) → q < zn (c 1 0) → c 33 p = c 33 q → p = q) ∧ (∀ x, zn x < zn (c 1 0) → ∃ p, p < zn (c 1 0) ∧ c 33 p = x) ∧ (∀ p, p < zn (c 1 0) → ¬ c 114 (zn (c 33 p)) = 2 → ∀ i, i < zn (c 10 (zn (c 33 p))) → ∃ q, q < p ∧ c 33 q = c (12 + zn (c 33 p)) i)
def zI5 (c : Nat → Nat → Int32) : Prop := zAc c (zn (c 1 0))
def zM9 (c : Nat → Nat → Int32) (w : Nat → Int64) : Prop := c 111 22 = c 106 1 ∧ c 111 23 = c 106 2 ∧ w 111 = w 106 ∧ c 111 24 = c 106 4 ∧ ∀ q, q < 64 → c 122 q = c 107 q
def zE9 (c : Nat → Nat → Int32) (ea : Nat → Nat → Int32) : Prop := c 111 15 = c 0 6 ∧ (c 0 6 = 115 ∨ c 0 6 = 113 ∨ c 0 6 = 116) ∧ ea 0 0 = c 111 16 ∧ ea 0 1 = c 111 17 ∧ ea 0 2 = c 111 18 ∧ ea 0 3 = c 111 19 ∧ zn (c 111 16) ≤ 200 ∧ zn (c 111 17) ≤ 200 ∧ zn (c 111 19) ≤ 200 ∧ c 111 20 = c 35 2 ∧ c 111 21 = c 35 1
/-- one voice: s the class's cell, e its envelope, p the reference's numbers -/
def zVp (s e p : Nat → Int32) (m : Nat) : Prop := s 0 = p 0 ∧ (p 0 = 0 ∨ p 0 = 1) ∧ (p 0 = 1 → s 1 = p 1 ∧ (p 1 = 0 ∨ p 1 = 1) ∧ s 2 = p 2 ∧ zn (p 2) < 60 ∧ s 3 = p 3 ∧ s 4 = p 4 ∧ (p 4 = 115 ∨ p 4 = 113 ∨ p 4 = 116) ∧ e 0 = p 5 ∧ e 1 = p 6 ∧ e 2 = p 7 ∧ e 3 = p 8 ∧ zn (p 5) ≤ 200 ∧ zn (p 6) ≤ 200 ∧ zn (p 8) ≤ 200 ∧ s 6 = r_X7_stepOf (p 2) ∧ s 7 = p 9 ∧ zn (p 9) < 65536 ∧ s 8 = p 13 + 1 ∧ zn (p 13) < m ∧ s 10 = p 10 ∧ (p 1 = 1 → s 9 = p 14 + 1 ∧ zn (p 14) < m ∧ s 11 = p 11 ∧ s 12 = p 12 ∧ zn (p 12) < zn (p 8)))
def zVo (o : Nat) (c ea : Nat → Nat → Int32) (r : Nat → Int32) (m : Nat) : Prop := ∀ v, v < 4 → zVp (c (o + 3 + 2 * v)) (ea (o + 3 + 2 * v)) (fun q => r (640 + 16 * v + q)) m
/-- a track and the reference's row -/
def zTr (o : Nat) (c : Nat → Nat → Int32) (r : Nat → Int32) : Prop := ∀ k, k < zn (c 1 0) → c (o + 22) k = r (630 + k) ∧ (c 114 k = 3 → c (o + 23) k = r (610 + k) ∧ r (620 + k) = r (630 + k)) ∧ (c 114 k = 2 → c (o + 35) k = r (600 + k) ∧ zn (r (600 + k)) < zn (c 4 k) ∧ ∀ q, q < 60 → c (o + 25 + k) q = r (60 * k + q))
/-- what no node has used yet is 0 -/
def zFz (c : Nat → Nat → Int32) : Prop := ∀ k, zn (c 1 0) ≤ k → k < 10 → c 56 k = 0 ∧ c 57 k = 0 ∧ c 69 k = 0 ∧ c 112 (600 + k) = 0 ∧ c 112 (610 + k) = 0 ∧ c 112 (620 + k) = 0 ∧ c 112 (630 + k) = 0 ∧ ∀ q, q < 60 → c (59 + k) q = 0 ∧ c 112 (60 * k + q) = 0
def zBn (j : Nat) (c : Nat → Nat → Int32) : Prop := zn (c 111 22) ≤ 64 * j ∧ zn (c 111 21) ≤ 4 * j ∧ zLv (4000 * j) (c 112)
def zInv (j : Nat) (c : Nat → Nat → Int32) (w : Nat → Int64) (ea : Nat → Nat → Int32) : Prop := zG c ∧ zI1 c ∧ zI2 c ∧ zI2b c ∧ zI3 c ∧ zI4 c ∧ zI5 c ∧ zM9 c w ∧ zE9 c ea ∧ zVo 34 c ea (c 112) (zn (c 111 21)) ∧ zTr 34 c (c 112) ∧ zFz c ∧ zBn j c
theorem zInv_ok : zInvOK zInv := by
  intro j c w ea ⟨hg, ⟨e1, e2, e3, e4, e5⟩, h2, h2b, h3, h4, h5, _, _, _, _, _, b1, b2, b3⟩ hj
  refine ⟨hg, b3, fun k hk hd => ?_, b1, by rw [e1]; exact h5, by rw [e1]; exact (h2b _ (Nat.le_refl _)).2.1, fun x hx => ?_, fun k hk q hq => ?_⟩
  · by_cases hn : k < zn (c 1 0)
    · obtain ⟨d1, _, d3, d4⟩ := (h2 k hn).2.2.2.1 hd
      rw [d1]; exact ⟨d3, d4⟩
    · have := (h2b k (by omega)).1
      rw [this] at hd; exact absurd hd (by decide)
  · rw [e1] at hx
    obtain ⟨p, hp, h9⟩ := h4.2.2.1 x hx
    exact ⟨p, by omega, by rw [(h4.1 p hp).1]; exact h9⟩
  · rw [e1] at hk ⊢
    obtain ⟨g1, g2, g3⟩ := h3 k hk
    rw [g1] at hq
    rw [(g3 q hq).1]
    exact (g3 q hq).2.2
theorem zBn.mono {j : Nat} {c : Nat → Nat → Int32} (h : zBn j c) : zBn (j + 1) c := ⟨by have := h.1; omega, by have := h.2.1; omega, h.2.2.mono (by omega)⟩
theorem zInv_mono (j : Nat) (c : Nat → Nat → Int32) (w : Nat → Int64) (ea : Nat → Nat → Int32) (h : zInv j c w ea) : zInv (j + 1) c w ea := by
  obtain ⟨a1, a2, a3, a4, a5, a6, a7, a8, a9, a10, a11, a12, a13⟩ := h
  exact ⟨a1, a2, a3, a4, a5, a6, a7, a8, a9, a10, a11, a12, a13.mono⟩
/-- the places that the relation speaks of -/
def zRl (i k : Nat) : Prop := (i < 70 ∨ 106 ≤ i) ∧ i ≠ 108 ∧ i ≠ 109 ∧ i ≠ 113 ∧ i ≠ 123 ∧ ¬ (i = 111 ∧ k = 12) ∧ (i = 112 → k < 704)
section
variable {c c' : Nat → Nat → Int32} {ea ea' : Nat → Nat → Int32}
theorem zI1.congr (hc : ∀ i k, (i = 111 ∧ (k = 13 ∨ k = 14)) ∨ (i = 1 ∧ k ≤ 1) → c' i k = c i k) (h : zI1 c) : zI1 c' := by
  unfold zI1 at *
  rw [hc 111 13 (by omega), hc 111 14 (by omega), hc 1 0 (by omega), hc 1 1 (by omega)]
  exact h
theorem zI2.congr (hc : ∀ i k, (i = 1 ∧ k = 0) ∨ (2 ≤ i ∧ i ≤ 9) ∨ (114 ≤ i ∧ i ≤ 117) → c' i k = c i k) (h : zI2 c) : zI2 c' := by
  have r : ∀ i, (2 ≤ i ∧ i ≤ 9) ∨ (114 ≤ i ∧ i ≤ 117) → c' i = c i := fun i hi => funext fun k => hc i k (by omega)
  unfold zI2 at *
  rw [hc 1 0 (by omega), r 2 (by omega), r 114 (by omega), r 115 (by omega), r 3 (by omega), r 4 (by omega), r 116 (by omega), r 5 (by omega), r 6 (by omega), r 7 (by omega), r 117 (by omega), r 8 (by omega), r 9 (by omega)]
  exact h
theorem zI2b.congr (hc : ∀ i k, (i = 1 ∧ k = 0) ∨ i = 10 ∨ i = 114 ∨ i = 120 → c' i k = c i k) (h : zI2b c) : zI2b c' := by
  have r : ∀ i, i = 10 ∨ i = 114 ∨ i = 120 → c' i = c i := fun i hi => funext fun k => hc i k (by omega)
  unfold zI2b at *
  rw [hc 1 0 (by omega), r 114 (by omega), r 120 (by omega), r 10 (by omega)]
  exact h
theorem zI3.congr (h10 : zn (c 1 0) ≤ 10) (hc : ∀ i k, (i = 1 ∧ k = 0) ∨ i = 10 ∨ (12 ≤ i ∧ i < 33) ∨ (118 ≤ i ∧ i ≤ 120) → c' i k = c i k) (h : zI3 c) : zI3 c' := by
  have r : ∀ i, i = 10 ∨ (12 ≤ i ∧ i < 33) ∨ (118 ≤ i ∧ i ≤ 120) → c' i = c i := fun i hi => funext fun k => hc i k (by omega)
  unfold zI3 at *
  rw [hc 1 0 (by omega), r 120 (by omega), r 10 (by omega), r 118 (by omega), r 119 (by omega)]
  intro k hk
  rw [r (12 + k) (by omega), r (23 + k) (by omega)]
  exact h k hk
theorem zI4.congr (h10 : zn (c 1 0) ≤ 10) (hc : ∀ i k, (i = 1 ∧ k = 0) ∨ i = 10 ∨ (12 ≤ i ∧ i < 22) ∨ i = 33 ∨ i = 114 ∨ i = 121 → c' i k = c i k) (h : zI4 c) : zI4 c' := by
  have r : ∀ i, i = 10 ∨ (12 ≤ i ∧ i < 22) ∨ i = 33 ∨ i = 114 ∨ i = 121 → c' i = c i := fun i hi => funext fun k => hc i k (by omega)
  unfold zI4 at *
  rw [hc 1 0 (by omega), r 121 (by omega), r 33 (by omega), r 114 (by omega), r 10 (by omega)]
  refine ⟨h.1, h.2.1, h.2.2.1, fun p hp => ?_⟩
  have h9 := (h.1 p hp).2
  rw [r (12 + zn (c 33 p)) (by omega)]
  exact h.2.2.2 p hp
theorem zI5.congr (hc : ∀ i k, (i = 1 ∧ k = 0) ∨ i = 114 ∨ i = 118 ∨ i = 120 → c' i k = c i k) (h : zI5 c) : zI5 c' := by
  have r : ∀ i, i = 114 ∨ i = 118 ∨ i = 120 → c' i = c i := fun i hi => funext fun k => hc i k (by omega)
  unfold zI5 at *
  rw [hc 1 0 (by omega)]
  exact h.congr (r 114 (by omega)) (r 118 (by omega)) (r 120 (by omega))
theorem zM9.congr {w w' : Nat → Int64} (hc : ∀ i k, (i = 111 ∧ 22 ≤ k ∧ k ≤ 24) ∨ i = 106 ∨ i = 107 ∨ i = 122 → c' i k = c i k) (hw : w' 106 = w 106 ∧ w' 111 = w 111) (h : zM9 c w) : zM9 c' w' := by
  unfold zM9 at *
  rw [hc 111 22 (by omega), hc 111 23 (by omega), hc 111 24 (by omega), hc 106 1 (by omega), hc 106 2 (by omega), hc 106 4 (by omega), show c' 107 = c 107 from funext fun k => hc 107 k (by omega), show c' 122 = c 122 from funext fun k => hc 122 k (by omega), hw.1, hw.2]
  exact h
theorem zE9.congr (hc : ∀ i k, (i = 111 ∧ 15 ≤ k ∧ k ≤ 21) ∨ (i = 0 ∧ k = 6) ∨ (i = 35 ∧ (k = 1 ∨ k = 2)) → c' i k = c i k) (he : ea' 0 = ea 0) (h : zE9 c ea) : zE9 c' ea' := by
  unfold zE9 at *
  rw [hc 111 15 (by omega), hc 111 16 (by omega), hc 111 17 (by omega), hc 111 18 (by omega), hc 111 19 (by omega), hc 111 20 (by omega), hc 111 21 (by omega), hc 0 6 (by omega), hc 35 1 (by omega), hc 35 2 (by omega), he]
  exact h
theorem zVp.congr {s e p p' : Nat → Int32} {m : Nat} (hp : ∀ q, q < 16 → p' q = p q) (h : zVp s e p m) : zVp s e p' m := by
  unfold zVp at *
  rw [hp 0 (by decide), hp 1 (by decide), hp 2 (by decide), hp 3 (by decide), hp 4 (by decide), hp 5 (by decide), hp 6 (by decide), hp 7 (by decide), hp 8 (by decide), hp 9 (by decide), hp 10 (by decide), hp 11 (by decide), hp 12 (by decide), hp 13 (by decide), hp 14 (by decide)]
  exact h
theorem zVp.mono {s e p : Nat → Int32} {m m' : Nat} (hm : m ≤ m') (h : zVp s e p m) : zVp s e p m' := by
  obtain ⟨h1, h2, h3⟩ := h
  refine ⟨h1, h2, fun q => ?_⟩
  obtain ⟨a1, a2, a3, a4, a5, a6, a7, a8, a9, a10, a11, a12, a13, a14, a15, a16, a17, a18, a19, a20, a21⟩ := h3 q
  refine ⟨a1, a2, a3, a4, a5, a6, a7, a8, a9, a10, a11, a12, a13, a14, a15, a16, a17, a18, by omega, a20, fun q => ?_⟩
  obtain ⟨b1, b2, b3⟩ := a21 q
  exact ⟨b1, by omega, b3⟩
theorem zVo.congr {o : Nat} {r r' : Nat → Int32} {m : Nat} (hc : ∀ v, v < 4 → c' (o + 3 + 2 * v) = c (o + 3 + 2 * v)) (he : ∀ v, v < 4 → ea' (o + 3 + 2 * v) = ea (o + 3 + 2 * v)) (hr : ∀ q, 640 ≤ q → q < 704 → r' q = r q) (h : zVo o c ea r m) : zVo o c' ea' r' m := fun v hv => by
  rw [hc v hv, he v hv]
  exact (h v hv).congr (fun q hq => hr _ (by omega) (by omega))
theorem zTr.congr {o : Nat} {r r' : Nat → Int32} (h10 : zn (c 1 0) ≤ 10) (h1 : c' 1 0 = c 1 0) (h114 : c' 114 = c 114) (h4 : c' 4 = c 4) (hc : ∀ i, i = o + 22 ∨ i = o + 23 ∨ i = o + 35 ∨ (o + 25 ≤ i ∧ i < o + 35) → c' i = c i) (hr : ∀ q, q < 640 → r' q = r q) (h : zTr o c r) : zTr o c' r' := by
  unfold zTr at *
  rw [h1, h114, h4, hc (o + 22) (by omega), hc (o + 23) (by omega), hc (o + 35) (by omega)]
  intro k hk
  rw [hr (630 + k) (by omega), hr (610 + k) (by omega), hr (620 + k) (by omega), hr (600 + k) (by omega), hc (o + 25 + k) (by omega)]
  obtain ⟨a1, a2, a3⟩ := h k hk
  refine ⟨a1, a2, fun q => ?_⟩
  obtain ⟨b1, b2, b3⟩ := a3 q
  exact ⟨b1, b2, fun q hq => by rw [hr _ (by omega)]; exact b3 q hq⟩
theorem zFz.congr (hc : ∀ i k, (i = 1 ∧ k = 0) ∨ i = 56 ∨ i = 57 ∨ (59 ≤ i ∧ i ≤ 69) ∨ (i = 112 ∧ k < 640) → c' i k = c i k) (h : zFz c) : zFz c' := by
  have r : ∀ i, i = 56 ∨ i = 57 ∨ (59 ≤ i ∧ i ≤ 69) → c' i = c i := fun i hi => funext fun k => hc i k (by omega)
  unfold zFz at *
  rw [hc 1 0 (by omega), r 56 (by omega), r 57 (by omega), r 69 (by omega)]
  intro k hk hk2
  rw [hc 112 (600 + k) (by omega), hc 112 (610 + k) (by omega), hc 112 (620 + k) (by omega), hc 112 (630 + k) (by omega), r (59 + k) (by omega)]
  obtain ⟨a1, a2, a3, a4, a5, a6, a7, a8⟩ := h k hk hk2
  exact ⟨a1, a2, a3, a4, a5, a6, a7, fun q hq => by rw [hc 112 (60 * k + q) (by omega)]; exact a8 q hq⟩
theorem zBn.congr {j : Nat} (hc : ∀ i k, (i = 111 ∧ (k = 21 ∨ k = 22)) ∨ (i = 112 ∧ k < 704) → c' i k = c i k) (h : zBn j c) : zBn j c' := by
  unfold zBn at *
  rw [hc 111 22 (by omega), hc 111 21 (by omega)]
  exact ⟨h.1, h.2.1, h.2.2.eq (fun q h1 h2 => hc 112 q (by omega))⟩
theorem zInv.congr {j : Nat} {w w' : Nat → Int64} (hc : ∀ i k, zRl i k → c' i k = c i k) (hg : zG c') (hw : w' 106 = w 106 ∧ w' 111 = w 111) (he : ea' 0 = ea 0 ∧ ∀ v, v < 4 → ea' (34 + 3 + 2 * v) = ea (34 + 3 + 2 * v)) (h : zInv j c w ea) : zInv (j + 1) c' w' ea' := by
  obtain ⟨a1, a2, a3, a4, a5, a6, a7, a8, a9, a10, a11, a12, a13⟩ := h
  have h10 := a2.2.2.1
  have H : ∀ i k, (i < 70 ∨ 106 ≤ i) ∧ i ≠ 108 ∧ i ≠ 109 ∧ i ≠ 113 ∧ i ≠ 123 ∧ ¬ (i = 111 ∧ k = 12) ∧ (i = 112 → k < 704) → c' i k = c i k := hc
  refine ⟨hg, a2.congr (fun i k h => H i k (by omega)), a3.congr (fun i k h => H i k (by omega)), a4.congr (fun i k h => H i k (by omega)), a5.congr h10 (fun i k h => H i k (by omega)), a6.congr h10 (fun i k h => H i k (by omega)), a7.congr (fun i k h => H i k (by omega)), a8.congr (fun i k h => H i k (by omega)) hw, a9.congr (fun i k h => H i k (by omega)) he.1, ?_, ?_, a12.congr (fun i k h => H i k (by omega)), (a13.congr (fun i k h => H i k (by omega))).mono⟩
  · rw [hc 111 21 (by unfold zRl; omega)]
    exact a10.congr (fun v hv => funext fun k => H _ k (by omega)) he.2 (fun q h1 h2 => H 112 q (by omega))
  · exact a11.congr h10 (H 1 0 (by omega)) (funext fun k => H 114 k (by omega)) (funext fun k => H 4 k (by omega)) (fun i hi => funext fun k => H i k (by omega)) (fun q hq => H 112 q (by omega))
end
