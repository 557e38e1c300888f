def bz (v : Nat) : Nat → Nat → (Nat → Nat → Int32) → (Nat → Nat → Int32)
  | 0, _, c1 => c1
  | n + 1, k, c1 => bz v n (k + 1) (m_X7_lay c1 v k 0)
theorem g1_begin_n (c : Nat → Nat → Int32) (x y : Int32) (K : Nat → (Nat → Nat → Int32) → Int32 × (Nat → Nat → Int32)) : ∀ (n k : Nat) (c1 : Nat → Nat → Int32), g1_X7_begin c x y n k c1 K = K (k + n) (bz (zn (m_X7_voiceFor ((m_X7_checked c 1).2))) n k c1) := by
  intro n
  induction n with
  | zero => intro k c1; rfl
  | succ n ih => intro k c1; rw [g1_X7_begin, ih, show k + 1 + n = k + (n + 1) by omega]; rfl
theorem g2_begin_n (c : Nat → Nat → Int32) (x y : Int32) (K : Nat → (Nat → Nat → Int32) → Int32 × (Nat → Nat → Int32)) : ∀ (n k : Nat) (c1 : Nat → Nat → Int32), g2_X7_begin c x y n k c1 K = K (k + n) (bz (zn (m_X7_voiceFor ((m_X7_checked c 1).2))) n k c1) := by
  intro n
  induction n with
  | zero => intro k c1; rfl
  | succ n ih => intro k c1; rw [g2_X7_begin, ih, show k + 1 + n = k + (n + 1) by omega]; rfl
theorem bz_o (v : Nat) {i q : Nat} (h : i = 112 → ∀ k, k < 16 → q ≠ 640 + 16 * v + k) : ∀ (n k : Nat) (c1 : Nat → Nat → Int32), k + n ≤ 16 → bz v n k c1 i q = c1 i q := by
  intro n
  induction n with
  | zero => intro k c1 _; rfl
  | succ n ih => intro k c1 hk; rw [bz, ih _ _ (by omega), lay_o _ _ _ _ (fun z => h z.1 k (by omega) z.2)]
theorem bz_v (v : Nat) : ∀ (n k : Nat) (c1 : Nat → Nat → Int32), k + n = 16 → (∀ q, q < k → c1 112 (640 + 16 * v + q) = 0) → ∀ q, q < 16 → bz v n k c1 112 (640 + 16 * v + q) = 0 := by
  intro n
  induction n with
  | zero => intro k c1 hk h q hq; exact h q (by omega)
  | succ n ih =>
    intro k c1 hk h q hq
    rw [bz]
    refine ih _ _ (by omega) (fun q hq => ?_) q hq
    by_cases e : q = k
    · subst e; exact zlay_s 0
    · rw [zlay_e 0 (by omega) (by omega) (Or.inr e)]; exact h q (by omega)
/-- a note is laid -/
def bgF (c1 : Nat → Nat → Int32) (v : Nat) (x y : Int32) : Nat → Nat → Int32 := zup (m_X7_lay (m_X7_lay (m_X7_lay (m_X7_lay (m_X7_lay (m_X7_lay (m_X7_lay (m_X7_lay (m_X7_lay c1 v 0 1) v 2 x) v 3 y) v 4 (c1 111 15)) v 5 (c1 111 16)) v 6 (c1 111 17)) v 7 (c1 111 18)) v 8 (c1 111 19)) v 13 (c1 111 21)) 111 21 ((c1 111 21) + 1)
theorem bgF_o (c1 : Nat → Nat → Int32) (v : Nat) (x y : Int32) {i k : Nat} (h1 : ¬ (i = 111 ∧ k = 21)) (h2 : i = 112 → ∀ q, q < 16 → k ≠ 640 + 16 * v + q) : bgF c1 v x y i k = c1 i k := by
  unfold bgF
  rw [zup_at, if_neg h1, lay_o _ _ _ _ (fun z => h2 z.1 13 (by decide) z.2), lay_o _ _ _ _ (fun z => h2 z.1 8 (by decide) z.2), lay_o _ _ _ _ (fun z => h2 z.1 7 (by decide) z.2), lay_o _ _ _ _ (fun z => h2 z.1 6 (by decide) z.2), lay_o _ _ _ _ (fun z => h2 z.1 5 (by decide) z.2), lay_o _ _ _ _ (fun z => h2 z.1 4 (by decide) z.2), lay_o _ _ _ _ (fun z => h2 z.1 3 (by decide) z.2), lay_o _ _ _ _ (fun z => h2 z.1 2 (by decide) z.2), lay_o _ _ _ _ (fun z => h2 z.1 0 (by decide) z.2)]
theorem bgF_v (c1 : Nat → Nat → Int32) (v : Nat) (x y : Int32) {q : Nat} (hq : q < 16) : bgF c1 v x y 112 (640 + 16 * v + q) = if q = 13 then c1 111 21 else if q = 8 then c1 111 19 else if q = 7 then c1 111 18 else if q = 6 then c1 111 17 else if q = 5 then c1 111 16 else if q = 4 then c1 111 15 else if q = 3 then y else if q = 2 then x else if q = 0 then 1 else c1 112 (640 + 16 * v + q) := by
  unfold bgF
  rw [zup_i _ _ _ (by decide)]
  by_cases e13 : q = 13
  · subst e13; rw [zlay_s]; rfl
  rw [zlay_e _ (by decide) hq (Or.inr e13), if_neg e13]
  by_cases e8 : q = 8
  · subst e8; rw [zlay_s]; rfl
  rw [zlay_e _ (by decide) hq (Or.inr e8), if_neg e8]
  by_cases e7 : q = 7
  · subst e7; rw [zlay_s]; rfl
  rw [zlay_e _ (by decide) hq (Or.inr e7), if_neg e7]
  by_cases e6 : q = 6
  · subst e6; rw [zlay_s]; rfl
  rw [zlay_e _ (by decide) hq (Or.inr e6), if_neg e6]
  by_cases e5 : q = 5
  · subst e5; rw [zlay_s]; rfl
  rw [zlay_e _ (by decide) hq (Or.inr e5), if_neg e5]
  by_cases e4 : q = 4
  · subst e4; rw [zlay_s]; rfl
  rw [zlay_e _ (by decide) hq (Or.inr e4), if_neg e4]
  by_cases e3 : q = 3
  · subst e3; rw [zlay_s]; rfl
  rw [zlay_e _ (by decide) hq (Or.inr e3), if_neg e3]
  by_cases e2 : q = 2
  · subst e2; rw [zlay_s]; rfl
  rw [zlay_e _ (by decide) hq (Or.inr e2), if_neg e2]
  by_cases e0 : q = 0
  · subst e0; rw [zlay_s]; rfl
  rw [zlay_e _ (by decide) hq (Or.inr e0), if_neg e0]
theorem step_key : ∀ k, k < 60 → m_X6_stepOfKey k = r_X7_stepOf (nI k) := by decide +kernel
/-- a note begins, on both sides: c2 the class's state with its clock moved on, R the reference's -/
theorem begin_vp {c2 R ea : Nat → Nat → Int32} {en : Nat → Nat} {v m : Nat} {x y z wv : Int32} {q : Nat} {f : Nat → Int32} (hx : zn x < 60) (hz : z = R 111 21 + 1) (hm : zn (R 111 21) = m) (hw : R 111 15 = wv) (hwv : wv = 115 ∨ wv = 113 ∨ wv = 116) (h16 : f 0 = R 111 16) (h17 : f 1 = R 111 17) (h18 : f 2 = R 111 18) (h19 : f 3 = R 111 19) (b16 : zn (R 111 16) ≤ 200) (b17 : zn (R 111 17) ≤ 200) (b19 : zn (R 111 19) ≤ 200) (hR : ∀ q, q < 16 → R 112 (640 + 16 * v + q) = 0) : zVp ((m_X5_start c2 en ea 34 v (zn x) y wv z q f).1 (34 + 3 + 2 * v)) f (fun q => bgF R v x y 112 (640 + 16 * v + q)) (m + 1) := by
  have P := fun q (hq : q < 16) => bgF_v R v x y hq
  have p0 : bgF R v x y 112 (640 + 16 * v + 0) = 1 := P 0 (by decide)
  have p1 : bgF R v x y 112 (640 + 16 * v + 1) = 0 := (P 1 (by decide)).trans (hR 1 (by decide))
  have p2 : bgF R v x y 112 (640 + 16 * v + 2) = x := P 2 (by decide)
  have p3 : bgF R v x y 112 (640 + 16 * v + 3) = y := P 3 (by decide)
  have p4 : bgF R v x y 112 (640 + 16 * v + 4) = R 111 15 := P 4 (by decide)
  have p5 : bgF R v x y 112 (640 + 16 * v + 5) = R 111 16 := P 5 (by decide)
  have p6 : bgF R v x y 112 (640 + 16 * v + 6) = R 111 17 := P 6 (by decide)
  have p7 : bgF R v x y 112 (640 + 16 * v + 7) = R 111 18 := P 7 (by decide)
  have p8 : bgF R v x y 112 (640 + 16 * v + 8) = R 111 19 := P 8 (by decide)
  have p9 : bgF R v x y 112 (640 + 16 * v + 9) = 0 := (P 9 (by decide)).trans (hR 9 (by decide))
  have p10 : bgF R v x y 112 (640 + 16 * v + 10) = 0 := (P 10 (by decide)).trans (hR 10 (by decide))
  have p13 : bgF R v x y 112 (640 + 16 * v + 13) = R 111 21 := P 13 (by decide)
  unfold zVp
  dsimp only
  rw [p0, p1, p2, p3, p4, p5, p6, p7, p8, p9, p10, p13]
  unfold m_X5_start
  dsimp only
  have k0 : ∀ (F : Nat → Nat → Int32) (i k k' : Nat) (w : Int32), k' ≠ k → zup F i k w i k' = F i k' := fun F i k k' w h => zup_k F w h
  refine ⟨?_, Or.inr rfl, fun _ => ⟨?_, Or.inl rfl, ?_, hx, ?_, ?_, by rw [hw]; exact hwv, h16, h17, h18, h19, b16, b17, b19, ?_, ?_, by decide, ?_, by omega, ?_, fun q => absurd q (by decide)⟩⟩
  · rw [k0 _ _ _ _ _ (by decide), k0 _ _ _ _ _ (by decide), k0 _ _ _ _ _ (by decide), k0 _ _ _ _ _ (by decide), k0 _ _ _ _ _ (by decide), k0 _ _ _ _ _ (by decide), k0 _ _ _ _ _ (by decide), k0 _ _ _ _ _ (by decide), zup_s]
  · rw [k0 _ _ _ _ _ (by decide), k0 _ _ _ _ _ (by decide), k0 _ _ _ _ _ (by decide), k0 _ _ _ _ _ (by decide), k0 _ _ _ _ _ (by decide), k0 _ _ _ _ _ (by decide), k0 _ _ _ _ _ (by decide), zup_s]
  · rw [k0 _ _ _ _ _ (by decide), k0 _ _ _ _ _ (by decide), k0 _ _ _ _ _ (by decide), k0 _ _ _ _ _ (by decide), k0 _ _ _ _ _ (by decide), k0 _ _ _ _ _ (by decide), zup_s, ← zn_eq]
  · rw [k0 _ _ _ _ _ (by decide), k0 _ _ _ _ _ (by decide), k0 _ _ _ _ _ (by decide), k0 _ _ _ _ _ (by decide), k0 _ _ _ _ _ (by decide), zup_s]
  · rw [k0 _ _ _ _ _ (by decide), k0 _ _ _ _ _ (by decide), k0 _ _ _ _ _ (by decide), k0 _ _ _ _ _ (by decide), zup_s, hw]
  · rw [k0 _ _ _ _ _ (by decide), k0 _ _ _ _ _ (by decide), k0 _ _ _ _ _ (by decide), zup_s, step_key _ hx, ← zn_eq]
  · rw [k0 _ _ _ _ _ (by decide), k0 _ _ _ _ _ (by decide), zup_s]
  · rw [k0 _ _ _ _ _ (by decide), zup_s, hz]
  · rw [zup_s]
theorem start_o {c2 ea : Nat → Nat → Int32} {en : Nat → Nat} {v k : Nat} {y z wv : Int32} {q : Nat} {f : Nat → Int32} {i p : Nat} (h : i ≠ 34 + 3 + 2 * v) : (m_X5_start c2 en ea 34 v k y wv z q f).1 i p = c2 i p := by
  unfold m_X5_start
  dsimp only
  rw [zup_i _ _ _ h, zup_i _ _ _ h, zup_i _ _ _ h, zup_i _ _ _ h, zup_i _ _ _ h, zup_i _ _ _ h, zup_i _ _ _ h, zup_i _ _ _ h, zup_i _ _ _ h]
