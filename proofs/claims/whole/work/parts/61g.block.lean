/-! a block on the class's side is as many samples of the reference -/
section
variable {c C ea : Nat → Nat → Int32} {o z T m0 : Nat} {R : Nat → Nat → Int32}
/-- the order's loop of a block -/
def zWb (c C ea : Nat → Nat → Int32) (o z m0 : Nat) (R : Nat → Nat → Int32) (p : Nat) (c1 : Nat → Nat → Int32) : Prop := (∀ x q, ¬ (∃ v, v < 4 ∧ x = o + 3 + 2 * v) → ¬ (o + 12 ≤ x ∧ x < o + 22) → x ≠ o + 23 → c1 x q = C x q) ∧ (∀ p', p' < p → ∀ i, i < z → c1 (o + 12 + zn (c 33 p')) i = R (i + 1) (630 + zn (c 33 p'))) ∧ (∀ p', p' < p → c 114 (zn (c 33 p')) = 3 → c1 (o + 23) (zn (c 33 p')) = R z (610 + zn (c 33 p'))) ∧ (∀ k, (∀ p', p' < p → zn (c 33 p') ≠ k) → c1 (o + 23) k = C (o + 23) k) ∧ (((∀ p', p' < p → ¬ c 114 (zn (c 33 p')) = 0) ∧ zVo o c1 ea (R 0) m0) ∨ ((∃ p', p' < p ∧ c 114 (zn (c 33 p')) = 0) ∧ zVo o c1 ea (R z) m0))
theorem zWb.next {p : Nat} {c1 d : Nat → Nat → Int32} (h : zWb c C ea o z m0 R p c1) (h4 : zI4 c) (h10 : zn (c 1 0) ≤ 10) (hp : p < zn (c 1 0)) (ha : ∀ x q, ¬ (∃ v, v < 4 ∧ x = o + 3 + 2 * v) → x ≠ o + 23 → d x q = bst c1 o (zn (c 33 p)) z R x q) (hb : ∀ k, k ≠ zn (c 33 p) → d (o + 23) k = c1 (o + 23) k) (hb2 : c 114 (zn (c 33 p)) = 3 → d (o + 23) (zn (c 33 p)) = R z (610 + zn (c 33 p))) (hc : ¬ c 114 (zn (c 33 p)) = 0 → ∀ v, v < 4 → d (o + 3 + 2 * v) = c1 (o + 3 + 2 * v)) (hc2 : c 114 (zn (c 33 p)) = 0 → zVo o d ea (R z) m0) : zWb c C ea o z m0 R (p + 1) d := by
  obtain ⟨a1, a2, a3, a4, a5⟩ := h
  have nd := (h4.1 p hp).2
  have inj : ∀ p', p' < p → zn (c 33 p') ≠ zn (c 33 p) := fun p' h9 e => by
    have := h4.2.1 p' p (by omega) hp (zn_inj e); omega
  refine ⟨fun x q h1 h2 h3 => ?_, fun p' hp' i hi => ?_, fun p' hp' h3 => ?_, fun k hk => ?_, ?_⟩
  · rw [ha x q h1 h3, bst_o (by omega)]; exact a1 x q h1 h2 h3
  · have nv : ¬ (∃ v, v < 4 ∧ o + 12 + zn (c 33 p') = o + 3 + 2 * v) := fun ⟨v, hv, e⟩ => by omega
    have np := (h4.1 p' (by omega)).2
    rw [ha _ _ nv (by omega)]
    by_cases e : p' = p
    · subst e; exact if_pos ⟨rfl, hi⟩
    · rw [bst_o (by have := inj p' (by omega); omega)]
      exact a2 p' (by omega) i hi
  · by_cases e : p' = p
    · subst e; exact hb2 h3
    · rw [hb _ (inj p' (by omega))]; exact a3 p' (by omega) h3
  · rw [hb k (fun e => hk p (by omega) e.symm)]
    exact a4 k (fun p' h9 => hk p' (by omega))
  · by_cases h0 : c 114 (zn (c 33 p)) = 0
    · exact Or.inr ⟨⟨p, by omega, h0⟩, hc2 h0⟩
    · have hc' := hc h0
      rcases a5 with ⟨b1, b2⟩ | ⟨⟨p', b1, b3⟩, b2⟩
      · refine Or.inl ⟨fun p' hp' => ?_, b2.congr hc' (fun _ _ => rfl) (fun _ _ _ => rfl)⟩
        by_cases e : p' = p
        · subst e; exact h0
        · exact b1 p' (by omega)
      · exact Or.inr ⟨⟨p', by omega, b3⟩, b2.congr hc' (fun _ _ => rfl) (fun _ _ _ => rfl)⟩
theorem sm_dl {k : Nat} (h1 : zI1 c) (h2 : zI2 c) (hS : ∀ i, i < z → zSm c (R i) (R (i + 1))) (hk : k < zn (c 1 0)) (hd : c 114 k = 2) : zDl c R k z := fun i hi => by
  have hk' : k < zn (c 111 13) := by rw [h1.1]; exact hk
  have h9 := (hS i hi).1 k hk' hd
  obtain ⟨e1, e2, _, _⟩ := (h2 k hk).2.2.2.1 hd
  rw [e1, e2] at h9
  exact h9
theorem order_ok (ho : 34 ≤ o) (h1 : zI1 c) (h2 : zI2 c) (h3 : zI3 c) (h4 : zI4 c) (hg : zCg c C) (hg2 : C 114 = c 114) (hS : ∀ i, i < z → zSm c (R i) (R (i + 1))) (hL : ∀ i, i ≤ z → ∀ v, v < 4 → zn (R i (640 + 16 * v + 10)) ≤ T) (hT : T < 2 ^ 30) (hz : ∀ k, k < zn (c 1 0) → c 114 k = 2 → z ≤ zn (c 4 k)) (hR : zTr o C (R 0)) (K : Nat → (Nat → Nat → Int32) → (Nat → Nat → Int32)) : ∀ (m p : Nat) (c1 : Nat → Nat → Int32), p + m = zn (c 1 0) → zWb c C ea o z m0 R p c1 → ∃ D, g1_X4_findBlock C ea o z m p c1 K = K (zn (c 1 0)) D ∧ zWb c C ea o z m0 R (zn (c 1 0)) D := by
  have h10 := h1.2.2.1
  intro m
  induction m with
  | zero => intro p c1 hp h; have e : p = zn (c 1 0) := by omega
            rw [e] at h; exact ⟨c1, by rw [e]; rfl, h⟩
  | succ m ih =>
    intro p c1 hp h
    have hpn : p < zn (c 1 0) := by omega
    obtain ⟨a1, a2, a3, a4, a5⟩ := id h
    obtain ⟨_, nd⟩ := h4.1 p hpn
    have inj : ∀ p', p' < p → zn (c 33 p') ≠ zn (c 33 p) := fun p' h9 e => by
      have := h4.2.1 p' p (by omega) hpn (zn_inj e); omega
    have hg1 : zCg c c1 := fun x hx => (funext fun q => a1 x q (fun ⟨v, hv, e⟩ => by omega) (by omega) (by omega)).trans (hg x hx)
    have hfm : ∀ i, i < z → fml c (R i) (R (i + 1)) (zn (c 33 p)) := fun i hi => (hS i hi).2.1 _ (by rw [h1.1]; exact nd)
    have hin : ¬ c 114 (zn (c 33 p)) = 2 → zIn c c1 o (zn (c 33 p)) z R := fun hd q hq => by
      obtain ⟨p', hp', e⟩ := h4.2.2.2 p hpn hd q hq
      rw [← e]
      exact ⟨inj p' hp', fun i hi => a2 p' hp' i hi⟩
    obtain ⟨t1, t2, t3⟩ := hR (zn (c 33 p)) (by rw [hg 1 (by decide)]; exact nd)
    rw [hg2] at t2 t3
    rw [hg 4 (by decide)] at t3
    have bo : ∀ x, ¬ (x = o + 12 + zn (c 33 p)) → bst c1 o (zn (c 33 p)) z R x = c1 x := fun x hx => bst_o hx
    rw [g1_X4_findBlock, hg 33 (by decide), hg 2 (by decide)]
    obtain ⟨kd, k0, p1, p2, p3, p4⟩ := h2 (zn (c 33 p)) nd
    rcases kd with ⟨x1, x2⟩ | ⟨x1, x2⟩ | ⟨x1, x2⟩ | ⟨x1, x2⟩ | ⟨x1, x2⟩
    · rw [x1, if_pos rfl]
      have hV0 : zVo o c1 ea (R 0) m0 := by
        rcases a5 with ⟨_, b2⟩ | ⟨⟨p', b1, b3⟩, _⟩
        · exact b2
        · exact absurd (((h2 _ (h4.1 p' (by omega)).2).2.1.mp b3).trans (k0.mp x2).symm) (inj p' b1)
      obtain ⟨v1, v2⟩ := voices_ok (c := c) (C := c1) (ea := ea) (o := o) (nd := zn (c 33 p)) (z := z) (T := T) (m0 := m0) (R := R) (fun i hi => (hS i hi).2.2.1) hL hT hfm x2 hV0
      refine ih (p + 1) _ (by omega) (h.next h4 h10 hpn (fun x q h9 _ => v1 x q h9) (fun k hk => ?_) (fun h9 => ?_) (fun h9 => absurd x2 h9) (fun _ => v2))
      · rw [v1 _ _ (fun ⟨v, hv, e⟩ => by omega), bo _ (by omega)]
      · rw [x2] at h9; exact absurd h9 (by decide)
    · rw [x1, if_neg (by decide), if_pos rfl, gain_ok ho hg1 h3 nd h10 (hin (by rw [x2]; decide)) hfm x2 (p1 x2)]
      refine ih (p + 1) _ (by omega) (h.next h4 h10 hpn (fun x q _ _ => rfl) (fun k hk => by rw [bo _ (by omega)]) (fun h9 => ?_) (fun _ v hv => bo _ (by omega)) (fun h9 => ?_))
      · rw [x2] at h9; exact absurd h9 (by decide)
      · rw [x2] at h9; exact absurd h9 (by decide)
    · obtain ⟨t4, t5, t6⟩ := t3 x2
      obtain ⟨_, _, p5, p6⟩ := p2 x2
      rw [x1, if_neg (by decide), if_neg (by decide), if_pos rfl, delay_ok ho hg1 (sm_dl h1 h2 hS nd x2) t5 p6 (hz _ nd x2) (by rw [a1 _ _ (fun ⟨v, hv, e⟩ => by omega) (by omega) (by omega)]; exact t4) (fun q hq => by rw [a1 _ _ (fun ⟨v, hv, e⟩ => by omega) (by omega) (by omega)]; exact t6 q hq)]
      refine ih (p + 1) _ (by omega) (h.next h4 h10 hpn (fun x q _ _ => rfl) (fun k hk => by rw [bo _ (by omega)]) (fun h9 => ?_) (fun _ v hv => bo _ (by omega)) (fun h9 => ?_))
      · rw [x2] at h9; exact absurd h9 (by decide)
      · rw [x2] at h9; exact absurd h9 (by decide)
    · obtain ⟨t4, t5⟩ := t2 x2
      rw [x1, if_neg (by decide), if_neg (by decide), if_neg (by decide), if_pos rfl, filter_ok ho hg1 h3 nd h10 (hin (by rw [x2]; decide)) hfm x2 (p3 x2) (by rw [a4 _ inj]; exact t4) (by rw [a1 _ _ (fun ⟨v, hv, e⟩ => by omega) (by omega) (by omega), t1]; exact t5.symm)]
      refine ih (p + 1) _ (by omega) (h.next h4 h10 hpn (fun x q _ h9 => ?_) (fun k hk => ?_) (fun h9 => zup_s _ _ _ _) (fun _ v hv => ?_) (fun h9 => ?_))
      · rw [zup_i _ _ _ h9]
      · rw [zup_k _ _ hk, bo _ (by omega)]
      · rw [zup_i _ _ _ (by omega)]; exact bo _ (by omega)
      · rw [x2] at h9; exact absurd h9 (by decide)
    · rw [x1, if_neg (by decide), if_neg (by decide), if_neg (by decide), if_neg (by decide), bus_ok ho hg1 h3 nd h10 (hin (by rw [x2]; decide)) hfm x2 (p4 x2)]
      refine ih (p + 1) _ (by omega) (h.next h4 h10 hpn (fun x q _ _ => rfl) (fun k hk => by rw [bo _ (by omega)]) (fun h9 => ?_) (fun _ v hv => bo _ (by omega)) (fun h9 => ?_))
      · rw [x2] at h9; exact absurd h9 (by decide)
      · rw [x2] at h9; exact absurd h9 (by decide)
/-- the feeding loop of a block -/
def zYb (c D : Nat → Nat → Int32) (o z : Nat) (R : Nat → Nat → Int32) (i : Nat) (c2 : Nat → Nat → Int32) : Prop := (∀ x q, ¬ (x = o + 22 ∧ q < i) → ¬ (o + 25 ≤ x ∧ x < o + 25 + i) → ¬ (x = o + 35 ∧ q < i) → c2 x q = D x q) ∧ (∀ k, k < i → c2 (o + 22) k = R z (630 + k)) ∧ (∀ k, k < i → c 114 k = 2 → c2 (o + 35) k = R z (600 + k) ∧ ∀ q, q < 60 → c2 (o + 25 + k) q = R z (60 * k + q))
theorem feeds_ok {D : Nat → Nat → Int32} (ho : 34 ≤ o) (h1 : zI1 c) (h2 : zI2 c) (h3 : zI3 c) (hg : zCg c C) (hgD : zCg c D) (hS : ∀ i, i < z → zSm c (R i) (R (i + 1))) (hz1 : 1 ≤ z) (hB : ∀ k, k < zn (c 1 0) → ∀ i, i < z → D (o + 12 + k) i = R (i + 1) (630 + k)) (hd : ∀ k, k < zn (c 1 0) → c 114 k = 2 → D (o + 35) k = R 0 (600 + k) ∧ zn (R 0 (600 + k)) < zn (c 4 k) ∧ ∀ q, q < 60 → D (o + 25 + k) q = R 0 (60 * k + q)) : ∀ (m i : Nat) (c2 : Nat → Nat → Int32), i + m = zn (c 1 0) → zYb c D o z R i c2 → zYb c D o z R (zn (c 1 0)) (g2_X4_findBlock C ea o z m i c2 (fun _ c2 => c2)) := by
  have h10 := h1.2.2.1
  intro m
  induction m with
  | zero => intro i c2 hi h; have e : i = zn (c 1 0) := by omega
            rw [e] at h; exact h
  | succ m ih =>
    intro i c2 hi h
    obtain ⟨a1, a2, a3⟩ := h
    have hin : i < zn (c 1 0) := by omega
    have hB2 : ∀ k, k < zn (c 1 0) → ∀ q, q < z → c2 (o + 12 + k) q = R (q + 1) (630 + k) := fun k hk q hq => by
      rw [a1 _ _ (by omega) (by omega) (by omega)]; exact hB k hk q hq
    have hlast : c2 (o + 12 + i) (z - 1) = R z (630 + i) := by
      rw [hB2 i hin (z - 1) (by omega), show z - 1 + 1 = z by omega]
    rw [g2_X4_findBlock, hg 2 (by decide), hlast]
    by_cases k2 : c 114 i = 2
    · have x1 : c 2 i = 100 := by
        rcases (h2 i hin).1 with ⟨a, b⟩ | ⟨a, b⟩ | ⟨a, b⟩ | ⟨a, b⟩ | ⟨a, b⟩
        · rw [b] at k2; exact absurd k2 (by decide)
        · rw [b] at k2; exact absurd k2 (by decide)
        · exact a
        · rw [b] at k2; exact absurd k2 (by decide)
        · rw [b] at k2; exact absurd k2 (by decide)
      obtain ⟨_, _, p5, p6⟩ := (h2 i hin).2.2.2.1 k2
      obtain ⟨d1, d2, d3⟩ := hd i hin k2
      rw [if_pos x1, feed_ok ho (fun x hx => (funext fun q => a1 x q (by omega) (by omega) (by omega)).trans (hgD x hx)) h3 hin h10 (sm_dl h1 h2 hS hin k2) d2 p6 hB2 (by rw [a1 _ _ (by omega) (by omega) (by omega)]; exact d1) (fun q hq => by rw [a1 _ _ (by omega) (by omega) (by omega)]; exact d3 q hq)]
      have Z : ∀ x q, zup (zup (fdl c2 o i z R) (o + 35) i (R z (600 + i))) (o + 22) i (R z (630 + i)) x q = if x = o + 22 ∧ q = i then R z (630 + i) else if x = o + 35 ∧ q = i then R z (600 + i) else if x = o + 25 + i ∧ q < 60 then R z (60 * i + q) else c2 x q := fun x q => by
        rw [zup_at, zup_at]; rfl
      refine ih (i + 1) _ (by omega) ⟨fun x q h7 h8 h9 => ?_, fun k hk => ?_, fun k hk hk2 => ?_⟩
      · rw [Z, if_neg (by omega), if_neg (by omega), if_neg (by omega)]
        exact a1 x q (by omega) (by omega) (by omega)
      · rw [Z]
        by_cases e : k = i
        · subst e; rw [if_pos ⟨rfl, rfl⟩]
        · rw [if_neg (by omega), if_neg (by omega), if_neg (by omega)]; exact a2 k (by omega)
      · by_cases e : k = i
        · subst e
          refine ⟨by rw [Z, if_neg (by omega), if_pos ⟨rfl, rfl⟩], fun q hq => by rw [Z, if_neg (by omega), if_neg (by omega), if_pos ⟨rfl, hq⟩]⟩
        · obtain ⟨b1, b2⟩ := a3 k (by omega) hk2
          refine ⟨by rw [Z, if_neg (by omega), if_neg (by omega), if_neg (by omega)]; exact b1, fun q hq => by rw [Z, if_neg (by omega), if_neg (by omega), if_neg (by omega)]; exact b2 q hq⟩
    · have x1 : ¬ c 2 i = 100 := fun e => by
        rcases (h2 i hin).1 with ⟨a, b⟩ | ⟨a, b⟩ | ⟨a, b⟩ | ⟨a, b⟩ | ⟨a, b⟩
        · rw [a] at e; exact absurd e (by decide)
        · rw [a] at e; exact absurd e (by decide)
        · exact k2 b
        · rw [a] at e; exact absurd e (by decide)
        · rw [a] at e; exact absurd e (by decide)
      rw [if_neg x1]
      refine ih (i + 1) _ (by omega) ⟨fun x q h7 h8 h9 => ?_, fun k hk => ?_, fun k hk hk2 => ?_⟩
      · rw [zup_at, if_neg (by omega)]; exact a1 x q (by omega) (by omega) (by omega)
      · by_cases e : k = i
        · subst e; rw [zup_s]
        · rw [zup_k _ _ e]; exact a2 k (by omega)
      · have e : k ≠ i := fun e => k2 (by rw [← e]; exact hk2)
        obtain ⟨b1, b2⟩ := a3 k (by omega) hk2
        refine ⟨by rw [zup_i _ _ _ (by omega)]; exact b1, fun q hq => by rw [zup_i _ _ _ (by omega)]; exact b2 q hq⟩
/-- what no node has is left alone -/
def zNu (o n : Nat) (C E : Nat → Nat → Int32) : Prop := ∀ k, n ≤ k → E (o + 22) k = C (o + 22) k ∧ E (o + 23) k = C (o + 23) k ∧ E (o + 35) k = C (o + 35) k ∧ (k < 10 → E (o + 25 + k) = C (o + 25 + k))
theorem block_ok (ho : 34 ≤ o) (ho2 : o + 36 ≤ 114) (h1 : zI1 c) (h2 : zI2 c) (h3 : zI3 c) (h4 : zI4 c) (hg : zCg c C) (hg2 : C 114 = c 114) (hS : ∀ i, i < z → zSm c (R i) (R (i + 1))) (hL : ∀ i, i ≤ z → ∀ v, v < 4 → zn (R i (640 + 16 * v + 10)) ≤ T) (hT : T < 2 ^ 30) (hz1 : 1 ≤ z) (hz : ∀ k, k < zn (c 1 0) → c 114 k = 2 → z ≤ zn (c 4 k)) (hR : zTr o C (R 0)) (hV : zVo o C ea (R 0) m0) : (∀ x, x < o + 3 ∨ o + 36 ≤ x → m_X4_findBlock C ea o z x = C x) ∧ (∀ k, k < zn (c 1 0) → ∀ i, i < z → m_X4_findBlock C ea o z (o + 12 + k) i = R (i + 1) (630 + k)) ∧ zTr o (m_X4_findBlock C ea o z) (R z) ∧ zVo o (m_X4_findBlock C ea o z) ea (R z) m0 ∧ zNu o (zn (c 1 0)) C (m_X4_findBlock C ea o z) := by
  have h10 := h1.2.2.1
  unfold m_X4_findBlock
  rw [hg 1 (by decide)]
  obtain ⟨D, e, w1, w2, w3, w4, w5⟩ := order_ok (ea := ea) (m0 := m0) ho h1 h2 h3 h4 hg hg2 hS hL hT hz hR (fun _ c1 => g2_X4_findBlock C ea o z (zn (c 1 0)) 0 c1 (fun _ c2 => c2)) (zn (c 1 0)) 0 C (by omega) ⟨fun _ _ _ _ _ => rfl, fun p' hp' => by omega, fun p' hp' => by omega, fun _ _ => rfl, Or.inl ⟨fun p' hp' => by omega, hV⟩⟩
  rw [e]
  have at_ : ∀ k, k < zn (c 1 0) → ∃ p, p < zn (c 1 0) ∧ zn (c 33 p) = k := fun k hk => by
    obtain ⟨p, hp, e9⟩ := h4.2.2.1 (nI k) (by rw [zn_nI (by omega)]; exact hk)
    exact ⟨p, hp, by rw [e9, zn_nI (by omega)]⟩
  have hB : ∀ k, k < zn (c 1 0) → ∀ i, i < z → D (o + 12 + k) i = R (i + 1) (630 + k) := fun k hk i hi => by
    obtain ⟨p, hp, e9⟩ := at_ k hk
    have := w2 p hp i hi
    rwa [e9] at this
  have hTk : ∀ k, k < zn (c 1 0) → C (o + 22) k = R 0 (630 + k) ∧ (c 114 k = 3 → C (o + 23) k = R 0 (610 + k) ∧ R 0 (620 + k) = R 0 (630 + k)) ∧ (c 114 k = 2 → C (o + 35) k = R 0 (600 + k) ∧ zn (R 0 (600 + k)) < zn (c 4 k) ∧ ∀ q, q < 60 → C (o + 25 + k) q = R 0 (60 * k + q)) := fun k hk => by
    have := hR k (by rw [hg 1 (by decide)]; exact hk)
    rwa [hg2, hg 4 (by decide)] at this
  have y := feeds_ok (ea := ea) (D := D) ho h1 h2 h3 hg (fun x hx => (funext fun q => w1 x q (fun ⟨v, hv, e9⟩ => by omega) (by omega) (by omega)).trans (hg x hx)) hS hz1 hB (fun k hk hd => by
    obtain ⟨b1, b2, b3⟩ := (hTk k hk).2.2 hd
    refine ⟨by rw [w1 _ _ (fun ⟨v, hv, e9⟩ => by omega) (by omega) (by omega)]; exact b1, b2, fun q hq => by rw [w1 _ _ (fun ⟨v, hv, e9⟩ => by omega) (by omega) (by omega)]; exact b3 q hq⟩) (zn (c 1 0)) 0 D (by omega) ⟨fun _ _ _ _ _ => rfl, fun k hk => by omega, fun k hk => by omega⟩
  obtain ⟨y1, y2, y3⟩ := y
  generalize g2_X4_findBlock C ea o z (zn (c 1 0)) 0 D (fun _ c2 => c2) = E at y1 y2 y3
  have fr : ∀ x, x < o + 3 ∨ o + 36 ≤ x → E x = C x := fun x hx => funext fun q => by
    rw [y1 x q (by omega) (by omega) (by omega)]
    exact w1 x q (fun ⟨v, hv, e9⟩ => by omega) (by omega) (by omega)
  refine ⟨fr, fun k hk i hi => by rw [y1 _ _ (by omega) (by omega) (by omega)]; exact hB k hk i hi, fun k hk => ?_, ?_, fun k hk => ?_⟩
  · have e114 : E 114 = c 114 := (fr 114 (by omega)).trans hg2
    rw [fr 1 (by omega), hg 1 (by decide)] at hk
    rw [e114, fr 4 (by omega), hg 4 (by decide)]
    refine ⟨y2 k hk, fun hk3 => ⟨?_, ?_⟩, fun hk2 => ?_⟩
    · obtain ⟨p, hp, e9⟩ := at_ k hk
      rw [y1 _ _ (by omega) (by omega) (by omega)]
      have := w3 p hp (by rw [e9]; exact hk3)
      rwa [e9] at this
    · have := (((hS (z - 1) (by omega)).2.1 k (by rw [h1.1]; exact hk)).2.2.1 hk3).2.2
      rw [show z - 1 + 1 = z by omega] at this
      exact this.symm
    · obtain ⟨b1, b2⟩ := y3 k hk hk2
      obtain ⟨_, _, p5, p6⟩ := (h2 k hk).2.2.2.1 hk2
      exact ⟨b1, dl_lt (sm_dl h1 h2 hS hk hk2) ((hTk k hk).2.2 hk2).2.1 p6 z (Nat.le_refl _), b2⟩
  · have hVD : zVo o D ea (R z) m0 := by
      rcases w5 with ⟨b1, _⟩ | ⟨_, b2⟩
      · obtain ⟨p, hp, e9⟩ := at_ 0 (by have := h1.2.1; omega)
        exact absurd ((h2 _ (h4.1 p hp).2).2.1.mpr e9) (b1 p hp)
      · exact b2
    exact hVD.congr (fun v hv => funext fun q => y1 _ q (by omega) (by omega) (by omega)) (fun _ _ => rfl) (fun _ _ _ => rfl)
  · refine ⟨?_, ?_, ?_, fun hk10 => funext fun q => ?_⟩
    · rw [y1 _ _ (by omega) (by omega) (by omega)]; exact w1 _ _ (fun ⟨v, hv, e9⟩ => by omega) (by omega) (by omega)
    · rw [y1 _ _ (by omega) (by omega) (by omega)]
      exact w4 k (fun p' hp' e9 => by have := (h4.1 p' hp').2; omega)
    · rw [y1 _ _ (by omega) (by omega) (by omega)]; exact w1 _ _ (fun ⟨v, hv, e9⟩ => by omega) (by omega) (by omega)
    · rw [y1 _ _ (by omega) (by omega) (by omega)]; exact w1 _ _ (fun ⟨v, hv, e9⟩ => by omega) (by omega) (by omega)
end
