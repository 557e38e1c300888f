theorem zmll {K x : Int32} {k : Nat} (hK : K = nI k) : K * x = nI (k * zn x) := by rw [← pk_mul, ← zn_eq, hK]
theorem hw_ok {c : Nat → Nat → Int32} (hg : zG c) {x y : Int32} (h : (m_X7_hasNoWire c x y).1 = 0) : zn x < 10 ∧ zn y < zn (c 120 (zn x)) := by
  unfold m_X7_hasNoWire at h
  by_cases h1 : m_X7_isNode c x = 0
  · rw [if_pos h1] at h; exact absurd h (show ¬ (1 : Int32) = 0 by decide)
  · rw [if_neg h1] at h
    by_cases h2 : r_X7_in y 0 ((c 120 (zn x)) - 1) = 0
    · rw [if_pos h2] at h; exact absurd h (show ¬ (1 : Int32) = 0 by decide)
    · have hx := nd_ok hg h1
      obtain ⟨a1, a2⟩ := in_ok h2
      have hc : zn (c 120 (zn x)) ≤ 4 := hg 120 _
      rcases Nat.eq_zero_or_pos (zn (c 120 (zn x))) with h0 | h0
      · have e : c 120 (zn x) = 0 := zn_inj h0
        rw [e] at a2
        exfalso
        obtain ⟨j, hj, rfl⟩ := nI_of a1
        exact a2 (Int32.lt_of_lt_of_le (show (0 : Int32) - 1 < 0 by decide) ((z_le (a := 0) rfl rfl (by omega) hj).mpr (by omega)))
      · rw [zn_pred h0] at a2
        have := (zn_rng (a := 0) rfl rfl (by omega) (by decide) a1 a2).2
        exact ⟨hx, by omega⟩
def m_X7_wireFrom (c : Nat → Nat → Int32) (x y : Int32) : Int32 × (Nat → Nat → Int32) := if ((m_X7_hasNoWire c x y).1) = 0 then (c 118 (4 * zn x + zn y), (m_X7_hasNoWire c x y).2) else (0, (m_X7_hasNoWire c x y).2)
set_option maxRecDepth 100000 in
set_option maxHeartbeats 400000 in
theorem k_X7_wireFrom (l : Launch) (E : zE) (b : Nat) (c : Nat → Nat → Int32) (w : Nat → Int64) (en : Nat → Nat) (ea : Nat → Nat → Int32) (x y : Int32) (hg : zG c) : zM l yX7_wireFrom (.code yX7_wireFrom cX7_wireFrom 3 (some .int) :: zAll) (zRm 3 0 0) E b [.ref (b + 111), .int x, .int y] (zH E b c w en ea) (fun v9 (_ : Unit) => v9 = some (.int (m_X7_wireFrom c x y).1) ∧ zfr 111 112 111 111 c (m_X7_wireFrom c x y).2 ∧ zG (m_X7_wireFrom c x y).2) (fun _ => zH E b ((m_X7_wireFrom c x y).2) w en ea) 0 0 := by
  refine zM_of "ToneGraphModel" (by decide) rfl rfl (Nat.le_of_ble_eq_true rfl) (L0 := [(0, .ref (b + 111)), (1, .int x), (2, .int y)]) rfl ?_
  intro p e s m args below meth c9 B hr hname
  refine zv_aload_n (pc := 0) B 0 rfl dX7_wireFrom_0 ?_
  refine zv_iload_n (pc := 1) B 1 rfl dX7_wireFrom_1 ?_
  refine zv_iload_n (pc := 2) B 2 rfl dX7_wireFrom_2 ?_
  refine zv_callV (pc := 3) (As := [.int x, .int y]) (rest := []) B (k_X7_hasNoWire l E b _ _ _ _  x y hg) (zcwV 2 2 B wm_X7_129 wi_X7_hasNoWire wv_X7_hasNoWire wn_X7 wcode_X7_hasNoWire rfl (by decide +kernel) ⟨(Nat.le_of_ble_eq_true rfl), (Nat.le_of_ble_eq_true rfl)⟩) rfl (zrecv B (zat (by decide) (z111 _ _ _)) cl7) zid rfl (Nat.le_of_ble_eq_true rfl) dX7_wireFrom_3 ⟨(Nat.le_of_ble_eq_true rfl), (Nat.le_of_ble_eq_true rfl)⟩ (fun v9 u9 hv9 => ?_)
  obtain ⟨rfl, hF2001, hg2001⟩ := hv9
  refine zv_st (st' := [.int ((m_X7_hasNoWire c x y).1)]) rfl ?_
  refine zv_if_eq (pc := 6) (tgt := 13) B dX7_wireFrom_6 rfl (fun h2 => ?_) (fun h2 => ?_)
  · have hw9 := hw_ok hg h2
    have hc9 : zn (c 120 (zn x)) ≤ 4 := hg 120 _
    have hbx : zn x < 10 := hw9.1
    refine zv_aload_n (pc := 13) B 0 rfl dX7_wireFrom_13 ?_
    refine zv_get (pc := 14) (v := .ref (b + 118)) B (zat (by decide) (z111 _ _ _)) cl7 inX7 6 (by decide) wf_X7_28 rfl dX7_wireFrom_14 ?_
    refine zv_iconst (pc := 17) (v := 4) B rfl dX7_wireFrom_17 ?_
    refine zv_iload_n (pc := 18) B 1 rfl dX7_wireFrom_18 ?_
    refine zv_imul (pc := 19) B dX7_wireFrom_19 ?_
    refine zv_topi (y := nI (4 * zn x)) (zmll rfl) ?_
    refine zv_iload_n (pc := 20) B 2 rfl dX7_wireFrom_20 ?_
    refine zv_iadd (pc := 21) B dX7_wireFrom_21 ?_
    refine zv_topi (y := nI (4 * zn x + zn y)) ((by rw [← nI_add, ← zn_eq])) ?_
    refine zv_iald (pc := 22) (jj := (4 * zn x + zn y)) B (zat (by decide) (z118 _ _ _)) rfl (by omega) (by decide) dX7_wireFrom_22 ?_
    refine zv_topi (y := c 118 (4 * zn x + zn y)) (by rw [hF2001 118 (by omega)]) ?_
    have hE3 : (c 118 (4 * zn x + zn y), (m_X7_hasNoWire c x y).2) = m_X7_wireFrom c x y := (by unfold m_X7_wireFrom; rw [if_pos h2])
    exact zv_iret (pc := 23) B (c 118 (4 * zn x + zn y)) hr (fun H hP => ⟨(), ⟨(by rw [(zp2 hE3).1]), (by rw [(zp2 hE3).2]; exact (zfr.call zfr.refl hF2001 (by omega))), (by rw [(zp2 hE3).2]; exact hg2001)⟩, (by rw [(zp2 hE3).2]; exact hP)⟩) (Nat.le_of_ble_eq_true rfl) (Nat.le_of_ble_eq_true rfl) dX7_wireFrom_23
  · refine zv_iconst (pc := 9) (v := 0) B rfl dX7_wireFrom_9 ?_
    refine zv_goto (pc := 10) (tgt := 23) B rfl dX7_wireFrom_10 ?_
    have hE4 : (0, (m_X7_hasNoWire c x y).2) = m_X7_wireFrom c x y := (by unfold m_X7_wireFrom; rw [if_neg h2])
    exact zv_iret (pc := 23) B (0) hr (fun H hP => ⟨(), ⟨(by rw [(zp2 hE4).1]), (by rw [(zp2 hE4).2]; exact (zfr.call zfr.refl hF2001 (by omega))), (by rw [(zp2 hE4).2]; exact hg2001)⟩, (by rw [(zp2 hE4).2]; exact hP)⟩) (Nat.le_of_ble_eq_true rfl) (Nat.le_of_ble_eq_true rfl) dX7_wireFrom_23

def m_X7_wirePercent (c : Nat → Nat → Int32) (x y : Int32) : Int32 × (Nat → Nat → Int32) := if ((m_X7_hasNoWire c x y).1) = 0 then (c 119 (4 * zn x + zn y), (m_X7_hasNoWire c x y).2) else (0, (m_X7_hasNoWire c x y).2)
set_option maxRecDepth 100000 in
set_option maxHeartbeats 400000 in
theorem k_X7_wirePercent (l : Launch) (E : zE) (b : Nat) (c : Nat → Nat → Int32) (w : Nat → Int64) (en : Nat → Nat) (ea : Nat → Nat → Int32) (x y : Int32) (hg : zG c) : zM l yX7_wirePercent (.code yX7_wirePercent cX7_wirePercent 3 (some .int) :: zAll) (zRm 3 0 0) E b [.ref (b + 111), .int x, .int y] (zH E b c w en ea) (fun v9 (_ : Unit) => v9 = some (.int (m_X7_wirePercent c x y).1) ∧ zfr 111 112 111 111 c (m_X7_wirePercent c x y).2 ∧ zG (m_X7_wirePercent c x y).2) (fun _ => zH E b ((m_X7_wirePercent c x y).2) w en ea) 0 0 := by
  refine zM_of "ToneGraphModel" (by decide) rfl rfl (Nat.le_of_ble_eq_true rfl) (L0 := [(0, .ref (b + 111)), (1, .int x), (2, .int y)]) rfl ?_
  intro p e s m args below meth c9 B hr hname
  refine zv_aload_n (pc := 0) B 0 rfl dX7_wirePercent_0 ?_
  refine zv_iload_n (pc := 1) B 1 rfl dX7_wirePercent_1 ?_
  refine zv_iload_n (pc := 2) B 2 rfl dX7_wirePercent_2 ?_
  refine zv_callV (pc := 3) (As := [.int x, .int y]) (rest := []) B (k_X7_hasNoWire l E b _ _ _ _  x y hg) (zcwV 2 2 B wm_X7_129 wi_X7_hasNoWire wv_X7_hasNoWire wn_X7 wcode_X7_hasNoWire rfl (by decide +kernel) ⟨(Nat.le_of_ble_eq_true rfl), (Nat.le_of_ble_eq_true rfl)⟩) rfl (zrecv B (zat (by decide) (z111 _ _ _)) cl7) zid rfl (Nat.le_of_ble_eq_true rfl) dX7_wirePercent_3 ⟨(Nat.le_of_ble_eq_true rfl), (Nat.le_of_ble_eq_true rfl)⟩ (fun v9 u9 hv9 => ?_)
  obtain ⟨rfl, hF2001, hg2001⟩ := hv9
  refine zv_st (st' := [.int ((m_X7_hasNoWire c x y).1)]) rfl ?_
  refine zv_if_eq (pc := 6) (tgt := 13) B dX7_wirePercent_6 rfl (fun h2 => ?_) (fun h2 => ?_)
  · have hw9 := hw_ok hg h2
    have hc9 : zn (c 120 (zn x)) ≤ 4 := hg 120 _
    have hbx : zn x < 10 := hw9.1
    refine zv_aload_n (pc := 13) B 0 rfl dX7_wirePercent_13 ?_
    refine zv_get (pc := 14) (v := .ref (b + 119)) B (zat (by decide) (z111 _ _ _)) cl7 inX7 7 (by decide) wf_X7_31 rfl dX7_wirePercent_14 ?_
    refine zv_iconst (pc := 17) (v := 4) B rfl dX7_wirePercent_17 ?_
    refine zv_iload_n (pc := 18) B 1 rfl dX7_wirePercent_18 ?_
    refine zv_imul (pc := 19) B dX7_wirePercent_19 ?_
    refine zv_topi (y := nI (4 * zn x)) (zmll rfl) ?_
    refine zv_iload_n (pc := 20) B 2 rfl dX7_wirePercent_20 ?_
    refine zv_iadd (pc := 21) B dX7_wirePercent_21 ?_
    refine zv_topi (y := nI (4 * zn x + zn y)) ((by rw [← nI_add, ← zn_eq])) ?_
    refine zv_iald (pc := 22) (jj := (4 * zn x + zn y)) B (zat (by decide) (z119 _ _ _)) rfl (by omega) (by decide) dX7_wirePercent_22 ?_
    refine zv_topi (y := c 119 (4 * zn x + zn y)) (by rw [hF2001 119 (by omega)]) ?_
    have hE3 : (c 119 (4 * zn x + zn y), (m_X7_hasNoWire c x y).2) = m_X7_wirePercent c x y := (by unfold m_X7_wirePercent; rw [if_pos h2])
    exact zv_iret (pc := 23) B (c 119 (4 * zn x + zn y)) hr (fun H hP => ⟨(), ⟨(by rw [(zp2 hE3).1]), (by rw [(zp2 hE3).2]; exact (zfr.call zfr.refl hF2001 (by omega))), (by rw [(zp2 hE3).2]; exact hg2001)⟩, (by rw [(zp2 hE3).2]; exact hP)⟩) (Nat.le_of_ble_eq_true rfl) (Nat.le_of_ble_eq_true rfl) dX7_wirePercent_23
  · refine zv_iconst (pc := 9) (v := 0) B rfl dX7_wirePercent_9 ?_
    refine zv_goto (pc := 10) (tgt := 23) B rfl dX7_wirePercent_10 ?_
    have hE4 : (0, (m_X7_hasNoWire c x y).2) = m_X7_wirePercent c x y := (by unfold m_X7_wirePercent; rw [if_neg h2])
    exact zv_iret (pc := 23) B (0) hr (fun H hP => ⟨(), ⟨(by rw [(zp2 hE4).1]), (by rw [(zp2 hE4).2]; exact (zfr.call zfr.refl hF2001 (by omega))), (by rw [(zp2 hE4).2]; exact hg2001)⟩, (by rw [(zp2 hE4).2]; exact hP)⟩) (Nat.le_of_ble_eq_true rfl) (Nat.le_of_ble_eq_true rfl) dX7_wirePercent_23

def m_X7_isSilent (c : Nat → Nat → Int32) (x : Int32) : Int32 × (Nat → Nat → Int32) := if (r_X7_isVoice x) = 0 then (1, zup c 111 12 1) else (if (m_X7_plays c (zn x)) = 0 then (1, zup c 111 12 2) else (0, zup c 111 12 0))
set_option maxRecDepth 100000 in
set_option maxHeartbeats 400000 in
theorem k_X7_isSilent (l : Launch) (E : zE) (b : Nat) (c : Nat → Nat → Int32) (w : Nat → Int64) (en : Nat → Nat) (ea : Nat → Nat → Int32) (x : Int32) (hg : zG c) : zM l yX7_isSilent (.code yX7_isSilent cX7_isSilent 2 (some .boolean) :: zAll) (zRm 2 0 0) E b [.ref (b + 111), .int x] (zH E b c w en ea) (fun v9 (_ : Unit) => v9 = some (.int (m_X7_isSilent c x).1) ∧ zfr 111 112 111 111 c (m_X7_isSilent c x).2 ∧ zG (m_X7_isSilent c x).2) (fun _ => zH E b ((m_X7_isSilent c x).2) w en ea) 0 0 := by
  refine zM_of "ToneGraphModel" (by decide) rfl rfl (Nat.le_of_ble_eq_true rfl) (L0 := [(0, .ref (b + 111)), (1, .int x)]) rfl ?_
  intro p e s m args below meth c9 B hr hname
  refine zv_aload_n (pc := 0) B 0 rfl dX7_isSilent_0 ?_
  refine zv_iload_n (pc := 1) B 1 rfl dX7_isSilent_1 ?_
  refine zv_callS (pc := 2) (As := [.int x]) (rest := [.ref (b + 111)]) B (k_X7_isVoice l E b x) (zcwS 1 1 B wm_X7_159 ws_X7_isVoice wn_X7 wcode_X7_isVoice (by decide +kernel) ⟨(Nat.le_of_ble_eq_true rfl), (Nat.le_of_ble_eq_true rfl)⟩) rfl zid rfl (Nat.le_of_ble_eq_true rfl) dX7_isSilent_2 ⟨(Nat.le_of_ble_eq_true rfl), (Nat.le_of_ble_eq_true rfl)⟩ (fun v9 u9 hv9 => ?_)
  subst hv9
  refine zv_st (st' := [.int (r_X7_isVoice x), .ref (b + 111)]) rfl ?_
  refine zv_if_ne (pc := 5) (tgt := 12) B dX7_isSilent_5 rfl (fun h1 => ?_) (fun h1 => ?_)
  · have hbx : zn x < 4 := vo_ok h1
    refine zv_aload_n (pc := 12) B 0 rfl dX7_isSilent_12 ?_
    refine zv_iload_n (pc := 13) B 1 rfl dX7_isSilent_13 ?_
    refine zv_st (st' := [.int (nI (zn x)), .ref (b + 111), .ref (b + 111)]) (by rw [← zn_eq x]) ?_
    refine zv_callV (pc := 14) (As := [.int (nI (zn x))]) (rest := [.ref (b + 111)]) B (k_X7_plays l E b _ _ _ _  hbx) (zcwV 1 1 B wm_X7_135 wi_X7_plays wv_X7_plays wn_X7 wcode_X7_plays rfl (by decide +kernel) ⟨(Nat.le_of_ble_eq_true rfl), (Nat.le_of_ble_eq_true rfl)⟩) rfl (zrecv B (zat (by decide) (z111 _ _ _)) cl7) zid rfl (Nat.le_of_ble_eq_true rfl) dX7_isSilent_14 ⟨(Nat.le_of_ble_eq_true rfl), (Nat.le_of_ble_eq_true rfl)⟩ (fun v9 u9 hv9 => ?_)
    subst hv9
    refine zv_st (st' := [.int (m_X7_plays c (zn x)), .ref (b + 111)]) rfl ?_
    refine zv_if_ne (pc := 17) (tgt := 24) B dX7_isSilent_17 rfl (fun h2 => ?_) (fun h2 => ?_)
    · refine zv_iconst (pc := 24) (v := 0) B rfl dX7_isSilent_24 ?_
      refine zs_put9 (pc := 25) (f := 12) (F := fun x9 => [.ref (b + 112), .ref (b + 113), .ref (b + 114), .ref (b + 115), .ref (b + 116), .ref (b + 117), .ref (b + 118), .ref (b + 119), .ref (b + 120), .ref (b + 121), .ref (b + 122), .ref (b + 123), .int (x9 12), .int (x9 13), .int (x9 14), .int (x9 15), .int (x9 16), .int (x9 17), .int (x9 18), .int (x9 19), .int (x9 20), .int (x9 21), .int (x9 22), .int (x9 23), .int (x9 24), .long (w 111)]) B zid (by decide) rfl (fun x => z111 x _ _) cl7 inX7 tyX7 tyX7_ok nmX7 (by decide) wf_X7_47 rfl rfl rfl rfl (Nat.le_of_ble_eq_true rfl) (fun _ _ => rfl) dX7_isSilent_25 ?_
      refine zv_aload_n (pc := 28) B 0 rfl dX7_isSilent_28 ?_
      refine zv_get (pc := 29) (v := .int ((zup c 111 12 0) 111 12)) B (zat (by decide) (z111 _ _ _)) cl7 inX7 12 (by decide) wf_X7_47 rfl dX7_isSilent_29 ?_
      refine zv_topi (y := 0) (by rw [zup_s]) ?_
      refine zv_if_le (pc := 32) (tgt := 39) B dX7_isSilent_32 rfl (fun _ => ?_) (fun h9 => absurd (by decide) h9)
      refine zv_iconst (pc := 39) (v := 0) B rfl dX7_isSilent_39 ?_
      have hE4 : (0, zup c 111 12 0) = m_X7_isSilent c x := (by unfold m_X7_isSilent; rw [if_neg h1, if_neg h2])
      exact zv_zret (pc := 40) B (0) rfl hr (fun H hP => ⟨(), ⟨(by rw [(zp2 hE4).1]), (by rw [(zp2 hE4).2]; exact (zfr.up zfr.refl (by omega))), (by rw [(zp2 hE4).2]; exact (zG.up hg (show zn _ ≤ zT9 from zn_T _)))⟩, (by rw [(zp2 hE4).2]; exact hP)⟩) (Nat.le_of_ble_eq_true rfl) (Nat.le_of_ble_eq_true rfl) dX7_isSilent_40
    · refine zv_iconst (pc := 20) (v := 2) B rfl dX7_isSilent_20 ?_
      refine zv_goto (pc := 21) (tgt := 25) B rfl dX7_isSilent_21 ?_
      refine zs_put9 (pc := 25) (f := 12) (F := fun x9 => [.ref (b + 112), .ref (b + 113), .ref (b + 114), .ref (b + 115), .ref (b + 116), .ref (b + 117), .ref (b + 118), .ref (b + 119), .ref (b + 120), .ref (b + 121), .ref (b + 122), .ref (b + 123), .int (x9 12), .int (x9 13), .int (x9 14), .int (x9 15), .int (x9 16), .int (x9 17), .int (x9 18), .int (x9 19), .int (x9 20), .int (x9 21), .int (x9 22), .int (x9 23), .int (x9 24), .long (w 111)]) B zid (by decide) rfl (fun x => z111 x _ _) cl7 inX7 tyX7 tyX7_ok nmX7 (by decide) wf_X7_47 rfl rfl rfl rfl (Nat.le_of_ble_eq_true rfl) (fun _ _ => rfl) dX7_isSilent_25 ?_
      refine zv_aload_n (pc := 28) B 0 rfl dX7_isSilent_28 ?_
      refine zv_get (pc := 29) (v := .int ((zup c 111 12 2) 111 12)) B (zat (by decide) (z111 _ _ _)) cl7 inX7 12 (by decide) wf_X7_47 rfl dX7_isSilent_29 ?_
      refine zv_topi (y := 2) (by rw [zup_s]) ?_
      refine zv_if_le (pc := 32) (tgt := 39) B dX7_isSilent_32 rfl (fun h9 => absurd h9 (by decide)) (fun _ => ?_)
      refine zv_iconst (pc := 35) (v := 1) B rfl dX7_isSilent_35 ?_
      refine zv_goto (pc := 36) (tgt := 40) B rfl dX7_isSilent_36 ?_
      have hE6 : (1, zup c 111 12 2) = m_X7_isSilent c x := (by unfold m_X7_isSilent; rw [if_neg h1, if_pos h2])
      exact zv_zret (pc := 40) B (1) rfl hr (fun H hP => ⟨(), ⟨(by rw [(zp2 hE6).1]), (by rw [(zp2 hE6).2]; exact (zfr.up zfr.refl (by omega))), (by rw [(zp2 hE6).2]; exact (zG.up hg (show zn _ ≤ zT9 from zn_T _)))⟩, (by rw [(zp2 hE6).2]; exact hP)⟩) (Nat.le_of_ble_eq_true rfl) (Nat.le_of_ble_eq_true rfl) dX7_isSilent_40
  · refine zv_iconst (pc := 8) (v := 1) B rfl dX7_isSilent_8 ?_
    refine zv_goto (pc := 9) (tgt := 25) B rfl dX7_isSilent_9 ?_
    refine zs_put9 (pc := 25) (f := 12) (F := fun x9 => [.ref (b + 112), .ref (b + 113), .ref (b + 114), .ref (b + 115), .ref (b + 116), .ref (b + 117), .ref (b + 118), .ref (b + 119), .ref (b + 120), .ref (b + 121), .ref (b + 122), .ref (b + 123), .int (x9 12), .int (x9 13), .int (x9 14), .int (x9 15), .int (x9 16), .int (x9 17), .int (x9 18), .int (x9 19), .int (x9 20), .int (x9 21), .int (x9 22), .int (x9 23), .int (x9 24), .long (w 111)]) B zid (by decide) rfl (fun x => z111 x _ _) cl7 inX7 tyX7 tyX7_ok nmX7 (by decide) wf_X7_47 rfl rfl rfl rfl (Nat.le_of_ble_eq_true rfl) (fun _ _ => rfl) dX7_isSilent_25 ?_
    refine zv_aload_n (pc := 28) B 0 rfl dX7_isSilent_28 ?_
    refine zv_get (pc := 29) (v := .int ((zup c 111 12 1) 111 12)) B (zat (by decide) (z111 _ _ _)) cl7 inX7 12 (by decide) wf_X7_47 rfl dX7_isSilent_29 ?_
    refine zv_topi (y := 1) (by rw [zup_s]) ?_
    refine zv_if_le (pc := 32) (tgt := 39) B dX7_isSilent_32 rfl (fun h9 => absurd h9 (by decide)) (fun _ => ?_)
    refine zv_iconst (pc := 35) (v := 1) B rfl dX7_isSilent_35 ?_
    refine zv_goto (pc := 36) (tgt := 40) B rfl dX7_isSilent_36 ?_
    have hE8 : (1, zup c 111 12 1) = m_X7_isSilent c x := (by unfold m_X7_isSilent; rw [if_pos h1])
    exact zv_zret (pc := 40) B (1) rfl hr (fun H hP => ⟨(), ⟨(by rw [(zp2 hE8).1]), (by rw [(zp2 hE8).2]; exact (zfr.up zfr.refl (by omega))), (by rw [(zp2 hE8).2]; exact (zG.up hg (show zn _ ≤ zT9 from zn_T _)))⟩, (by rw [(zp2 hE8).2]; exact hP)⟩) (Nat.le_of_ble_eq_true rfl) (Nat.le_of_ble_eq_true rfl) dX7_isSilent_40

theorem is_ok {c : Nat → Nat → Int32} {x : Int32} (h : (m_X7_isSilent c x).1 = 0) : zn x < 4 := by
  unfold m_X7_isSilent at h
  by_cases h1 : r_X7_isVoice x = 0
  · rw [if_pos h1] at h; exact absurd h (show ¬ (1 : Int32) = 0 by decide)
  · exact vo_ok h1
def m_X7_keyOf (c : Nat → Nat → Int32) (x : Int32) : Int32 × (Nat → Nat → Int32) := if ((m_X7_isSilent c x).1) = 0 then ((m_X7_at ((m_X7_isSilent c x).2) (zn x) 2), (m_X7_isSilent c x).2) else (0, (m_X7_isSilent c x).2)
set_option maxRecDepth 100000 in
set_option maxHeartbeats 400000 in
theorem k_X7_keyOf (l : Launch) (E : zE) (b : Nat) (c : Nat → Nat → Int32) (w : Nat → Int64) (en : Nat → Nat) (ea : Nat → Nat → Int32) (x : Int32) (hg : zG c) : zM l yX7_keyOf (.code yX7_keyOf cX7_keyOf 2 (some .int) :: zAll) (zRm 3 0 0) E b [.ref (b + 111), .int x] (zH E b c w en ea) (fun v9 (_ : Unit) => v9 = some (.int (m_X7_keyOf c x).1) ∧ zfr 111 112 111 111 c (m_X7_keyOf c x).2 ∧ zG (m_X7_keyOf c x).2) (fun _ => zH E b ((m_X7_keyOf c x).2) w en ea) 0 0 := by
  refine zM_of "ToneGraphModel" (by decide) rfl rfl (Nat.le_of_ble_eq_true rfl) (L0 := [(0, .ref (b + 111)), (1, .int x)]) rfl ?_
  intro p e s m args below meth c9 B hr hname
  refine zv_aload_n (pc := 0) B 0 rfl dX7_keyOf_0 ?_
  refine zv_iload_n (pc := 1) B 1 rfl dX7_keyOf_1 ?_
  refine zv_callV (pc := 2) (As := [.int x]) (rest := []) B (k_X7_isSilent l E b _ _ _ _  x hg) (zcwV 1 2 B wm_X7_162 wi_X7_isSilent wv_X7_isSilent wn_X7 wcode_X7_isSilent rfl (by decide +kernel) ⟨(Nat.le_of_ble_eq_true rfl), (Nat.le_of_ble_eq_true rfl)⟩) rfl (zrecv B (zat (by decide) (z111 _ _ _)) cl7) zid rfl (Nat.le_of_ble_eq_true rfl) dX7_keyOf_2 ⟨(Nat.le_of_ble_eq_true rfl), (Nat.le_of_ble_eq_true rfl)⟩ (fun v9 u9 hv9 => ?_)
  obtain ⟨rfl, hF2001, hg2001⟩ := hv9
  refine zv_st (st' := [.int ((m_X7_isSilent c x).1)]) rfl ?_
  refine zv_if_eq (pc := 5) (tgt := 12) B dX7_keyOf_5 rfl (fun h2 => ?_) (fun h2 => ?_)
  · have hbx : zn x < 4 := is_ok h2
    refine zv_aload_n (pc := 12) B 0 rfl dX7_keyOf_12 ?_
    refine zv_iload_n (pc := 13) B 1 rfl dX7_keyOf_13 ?_
    refine zv_iconst (pc := 14) (v := 2) B rfl dX7_keyOf_14 ?_
    refine zv_st (st' := [.int (nI 2), .int (nI (zn x)), .ref (b + 111)]) (by rw [← zn_eq x]; rfl) ?_
    refine zv_callV (pc := 15) (As := [.int (nI (zn x)), .int (nI 2)]) (rest := []) B (k_X7_at (k := 2) l E b _ _ _ _  hbx (by decide)) (zcwV 2 0 B wm_X7_132 wi_X7_at wv_X7_at wn_X7 wcode_X7_at rfl (by decide +kernel) ⟨(Nat.le_of_ble_eq_true rfl), (Nat.le_of_ble_eq_true rfl)⟩) rfl (zrecv B (zat (by decide) (z111 _ _ _)) cl7) zid rfl (Nat.le_of_ble_eq_true rfl) dX7_keyOf_15 ⟨(Nat.le_of_ble_eq_true rfl), (Nat.le_of_ble_eq_true rfl)⟩ (fun v9 u9 hv9 => ?_)
    subst hv9
    refine zv_st (st' := [.int (m_X7_at ((m_X7_isSilent c x).2) (zn x) 2)]) rfl ?_
    have hE3 : ((m_X7_at ((m_X7_isSilent c x).2) (zn x) 2), (m_X7_isSilent c x).2) = m_X7_keyOf c x := (by unfold m_X7_keyOf; rw [if_pos h2])
    exact zv_iret (pc := 18) B ((m_X7_at ((m_X7_isSilent c x).2) (zn x) 2)) hr (fun H hP => ⟨(), ⟨(by rw [(zp2 hE3).1]), (by rw [(zp2 hE3).2]; exact (zfr.call zfr.refl hF2001 (by omega))), (by rw [(zp2 hE3).2]; exact hg2001)⟩, (by rw [(zp2 hE3).2]; exact hP)⟩) (Nat.le_of_ble_eq_true rfl) (Nat.le_of_ble_eq_true rfl) dX7_keyOf_18
  · refine zv_iconst (pc := 8) (v := 0) B rfl dX7_keyOf_8 ?_
    refine zv_goto (pc := 9) (tgt := 18) B rfl dX7_keyOf_9 ?_
    have hE4 : (0, (m_X7_isSilent c x).2) = m_X7_keyOf c x := (by unfold m_X7_keyOf; rw [if_neg h2])
    exact zv_iret (pc := 18) B (0) hr (fun H hP => ⟨(), ⟨(by rw [(zp2 hE4).1]), (by rw [(zp2 hE4).2]; exact (zfr.call zfr.refl hF2001 (by omega))), (by rw [(zp2 hE4).2]; exact hg2001)⟩, (by rw [(zp2 hE4).2]; exact hP)⟩) (Nat.le_of_ble_eq_true rfl) (Nat.le_of_ble_eq_true rfl) dX7_keyOf_18

def m_X7_phaseOf (c : Nat → Nat → Int32) (x : Int32) : Int32 × (Nat → Nat → Int32) := if ((m_X7_isSilent c x).1) = 0 then ((m_X7_at ((m_X7_isSilent c x).2) (zn x) 9), (m_X7_isSilent c x).2) else (0, (m_X7_isSilent c x).2)
set_option maxRecDepth 100000 in
set_option maxHeartbeats 400000 in
theorem k_X7_phaseOf (l : Launch) (E : zE) (b : Nat) (c : Nat → Nat → Int32) (w : Nat → Int64) (en : Nat → Nat) (ea : Nat → Nat → Int32) (x : Int32) (hg : zG c) : zM l yX7_phaseOf (.code yX7_phaseOf cX7_phaseOf 2 (some .int) :: zAll) (zRm 3 0 0) E b [.ref (b + 111), .int x] (zH E b c w en ea) (fun v9 (_ : Unit) => v9 = some (.int (m_X7_phaseOf c x).1) ∧ zfr 111 112 111 111 c (m_X7_phaseOf c x).2 ∧ zG (m_X7_phaseOf c x).2) (fun _ => zH E b ((m_X7_phaseOf c x).2) w en ea) 0 0 := by
  refine zM_of "ToneGraphModel" (by decide) rfl rfl (Nat.le_of_ble_eq_true rfl) (L0 := [(0, .ref (b + 111)), (1, .int x)]) rfl ?_
  intro p e s m args below meth c9 B hr hname
  refine zv_aload_n (pc := 0) B 0 rfl dX7_phaseOf_0 ?_
  refine zv_iload_n (pc := 1) B 1 rfl dX7_phaseOf_1 ?_
  refine zv_callV (pc := 2) (As := [.int x]) (rest := []) B (k_X7_isSilent l E b _ _ _ _  x hg) (zcwV 1 2 B wm_X7_162 wi_X7_isSilent wv_X7_isSilent wn_X7 wcode_X7_isSilent rfl (by decide +kernel) ⟨(Nat.le_of_ble_eq_true rfl), (Nat.le_of_ble_eq_true rfl)⟩) rfl (zrecv B (zat (by decide) (z111 _ _ _)) cl7) zid rfl (Nat.le_of_ble_eq_true rfl) dX7_phaseOf_2 ⟨(Nat.le_of_ble_eq_true rfl), (Nat.le_of_ble_eq_true rfl)⟩ (fun v9 u9 hv9 => ?_)
  obtain ⟨rfl, hF2001, hg2001⟩ := hv9
  refine zv_st (st' := [.int ((m_X7_isSilent c x).1)]) rfl ?_
  refine zv_if_eq (pc := 5) (tgt := 12) B dX7_phaseOf_5 rfl (fun h2 => ?_) (fun h2 => ?_)
  · have hbx : zn x < 4 := is_ok h2
    refine zv_aload_n (pc := 12) B 0 rfl dX7_phaseOf_12 ?_
    refine zv_iload_n (pc := 13) B 1 rfl dX7_phaseOf_13 ?_
    refine zv_bipush (pc := 14) (v := 9) B rfl dX7_phaseOf_14 ?_
    refine zv_st (st' := [.int (nI 9), .int (nI (zn x)), .ref (b + 111)]) (by rw [← zn_eq x]; rfl) ?_
    refine zv_callV (pc := 16) (As := [.int (nI (zn x)), .int (nI 9)]) (rest := []) B (k_X7_at (k := 9) l E b _ _ _ _  hbx (by decide)) (zcwV 2 0 B wm_X7_132 wi_X7_at wv_X7_at wn_X7 wcode_X7_at rfl (by decide +kernel) ⟨(Nat.le_of_ble_eq_true rfl), (Nat.le_of_ble_eq_true rfl)⟩) rfl (zrecv B (zat (by decide) (z111 _ _ _)) cl7) zid rfl (Nat.le_of_ble_eq_true rfl) dX7_phaseOf_16 ⟨(Nat.le_of_ble_eq_true rfl), (Nat.le_of_ble_eq_true rfl)⟩ (fun v9 u9 hv9 => ?_)
    subst hv9
    refine zv_st (st' := [.int (m_X7_at ((m_X7_isSilent c x).2) (zn x) 9)]) rfl ?_
    have hE3 : ((m_X7_at ((m_X7_isSilent c x).2) (zn x) 9), (m_X7_isSilent c x).2) = m_X7_phaseOf c x := (by unfold m_X7_phaseOf; rw [if_pos h2])
    exact zv_iret (pc := 19) B ((m_X7_at ((m_X7_isSilent c x).2) (zn x) 9)) hr (fun H hP => ⟨(), ⟨(by rw [(zp2 hE3).1]), (by rw [(zp2 hE3).2]; exact (zfr.call zfr.refl hF2001 (by omega))), (by rw [(zp2 hE3).2]; exact hg2001)⟩, (by rw [(zp2 hE3).2]; exact hP)⟩) (Nat.le_of_ble_eq_true rfl) (Nat.le_of_ble_eq_true rfl) dX7_phaseOf_19
  · refine zv_iconst (pc := 8) (v := 0) B rfl dX7_phaseOf_8 ?_
    refine zv_goto (pc := 9) (tgt := 19) B rfl dX7_phaseOf_9 ?_
    have hE4 : (0, (m_X7_isSilent c x).2) = m_X7_phaseOf c x := (by unfold m_X7_phaseOf; rw [if_neg h2])
    exact zv_iret (pc := 19) B (0) hr (fun H hP => ⟨(), ⟨(by rw [(zp2 hE4).1]), (by rw [(zp2 hE4).2]; exact (zfr.call zfr.refl hF2001 (by omega))), (by rw [(zp2 hE4).2]; exact hg2001)⟩, (by rw [(zp2 hE4).2]; exact hP)⟩) (Nat.le_of_ble_eq_true rfl) (Nat.le_of_ble_eq_true rfl) dX7_phaseOf_19

def m_X7_levelAt (c : Nat → Nat → Int32) (v : Nat) : Int32 := if (m_X7_plays c v) = 0 then 0 else (if (m_X7_isReleased c v) = 0 then (if (m_X7_at c v 5) ≤ (m_X7_at c v 10) then (if (m_X7_at c v 6) ≤ ((m_X7_at c v 10) - (m_X7_at c v 5)) then (m_X7_at c v 7) else (1000 - (((1000 - (m_X7_at c v 7)) * ((m_X7_at c v 10) - (m_X7_at c v 5))) / (m_X7_at c v 6)))) else ((1000 * (m_X7_at c v 10)) / (m_X7_at c v 5))) else ((m_X7_at c v 11) - (((m_X7_at c v 11) * (m_X7_at c v 12)) / (m_X7_at c v 8))))
set_option maxRecDepth 100000 in
set_option maxHeartbeats 400000 in
theorem k_X7_levelAt (l : Launch) (E : zE) (b : Nat) (c : Nat → Nat → Int32) (w : Nat → Int64) (en : Nat → Nat) (ea : Nat → Nat → Int32) {v : Nat} (hv : v < 4) (hz1 : ¬ m_X7_isReleased c v = 0 → ¬ m_X7_at c v 8 = 0) (hz2 : ¬ m_X7_at c v 5 ≤ m_X7_at c v 10 → ¬ m_X7_at c v 5 = 0) (hz3 : m_X7_at c v 5 ≤ m_X7_at c v 10 → ¬ m_X7_at c v 6 ≤ m_X7_at c v 10 - m_X7_at c v 5 → ¬ m_X7_at c v 6 = 0) : zM l yX7_levelAt (.code yX7_levelAt cX7_levelAt 4 (some .int) :: zAll) (zRm 3 0 0) E b [.ref (b + 111), .int (nI v)] (zH E b c w en ea) (fun v9 (_ : Unit) => v9 = some (.int (m_X7_levelAt c v))) (fun _ => zH E b c w en ea) 0 0 := by
  refine zM_of "ToneGraphModel" (by decide) rfl rfl (Nat.le_of_ble_eq_true rfl) (L0 := [(0, .ref (b + 111)), (1, .int (nI v))]) rfl ?_
  intro p e s m args below meth c9 B hr hname
  refine zv_aload_n (pc := 0) B 0 rfl dX7_levelAt_0 ?_
  refine zv_iload_n (pc := 1) B 1 rfl dX7_levelAt_1 ?_
  refine zv_callV (pc := 2) (As := [.int (nI v)]) (rest := []) B (k_X7_plays l E b _ _ _ _  hv) (zcwV 1 1 B wm_X7_135 wi_X7_plays wv_X7_plays wn_X7 wcode_X7_plays rfl (by decide +kernel) ⟨(Nat.le_of_ble_eq_true rfl), (Nat.le_of_ble_eq_true rfl)⟩) rfl (zrecv B (zat (by decide) (z111 _ _ _)) cl7) zid rfl (Nat.le_of_ble_eq_true rfl) dX7_levelAt_2 ⟨(Nat.le_of_ble_eq_true rfl), (Nat.le_of_ble_eq_true rfl)⟩ (fun v9 u9 hv9 => ?_)
  subst hv9
  refine zv_st (st' := [.int (m_X7_plays c v)]) rfl ?_
  refine zv_if_ne (pc := 5) (tgt := 10) B dX7_levelAt_5 rfl (fun h1 => ?_) (fun h1 => ?_)
  · refine zv_aload_n (pc := 10) B 0 rfl dX7_levelAt_10 ?_
    refine zv_iload_n (pc := 11) B 1 rfl dX7_levelAt_11 ?_
    refine zv_callV (pc := 12) (As := [.int (nI v)]) (rest := []) B (k_X7_isReleased l E b _ _ _ _  hv) (zcwV 1 2 B wm_X7_138 wi_X7_isReleased wv_X7_isReleased wn_X7 wcode_X7_isReleased rfl (by decide +kernel) ⟨(Nat.le_of_ble_eq_true rfl), (Nat.le_of_ble_eq_true rfl)⟩) rfl (zrecv B (zat (by decide) (z111 _ _ _)) cl7) zid rfl (Nat.le_of_ble_eq_true rfl) dX7_levelAt_12 ⟨(Nat.le_of_ble_eq_true rfl), (Nat.le_of_ble_eq_true rfl)⟩ (fun v9 u9 hv9 => ?_)
    subst hv9
    refine zv_st (st' := [.int (m_X7_isReleased c v)]) rfl ?_
    refine zv_if_eq (pc := 15) (tgt := 50) B dX7_levelAt_15 rfl (fun h2 => ?_) (fun h2 => ?_)
    · refine zv_aload_n (pc := 50) B 0 rfl dX7_levelAt_50 ?_
      refine zv_iload_n (pc := 51) B 1 rfl dX7_levelAt_51 ?_
      refine zv_bipush (pc := 52) (v := 10) B rfl dX7_levelAt_52 ?_
      refine zv_st (st' := [.int (nI 10), .int (nI v), .ref (b + 111)]) rfl ?_
      refine zv_callV (pc := 54) (As := [.int (nI v), .int (nI 10)]) (rest := []) B (k_X7_at (k := 10) l E b _ _ _ _  hv (by decide)) (zcwV 2 0 B wm_X7_132 wi_X7_at wv_X7_at wn_X7 wcode_X7_at rfl (by decide +kernel) ⟨(Nat.le_of_ble_eq_true rfl), (Nat.le_of_ble_eq_true rfl)⟩) rfl (zrecv B (zat (by decide) (z111 _ _ _)) cl7) zid rfl (Nat.le_of_ble_eq_true rfl) dX7_levelAt_54 ⟨(Nat.le_of_ble_eq_true rfl), (Nat.le_of_ble_eq_true rfl)⟩ (fun v9 u9 hv9 => ?_)
      subst hv9
      refine zv_st (st' := [.int (m_X7_at c v 10)]) rfl ?_
      refine zv_istore_n (pc := 57) (L' := [(2, .int (m_X7_at c v 10)), (0, .ref (b + 111)), (1, .int (nI v))]) B (by decide) rfl dX7_levelAt_57 ?_
      refine zv_iload_n (pc := 58) B 0 rfl dX7_levelAt_58 ?_
      refine zv_aload_n (pc := 59) B 1 rfl dX7_levelAt_59 ?_
      refine zv_iload_n (pc := 60) B 2 rfl dX7_levelAt_60 ?_
      refine zv_iconst (pc := 61) (v := 5) B rfl dX7_levelAt_61 ?_
      refine zv_st (st' := [.int (nI 5), .int (nI v), .ref (b + 111), .int (m_X7_at c v 10)]) rfl ?_
      refine zv_callV (pc := 62) (As := [.int (nI v), .int (nI 5)]) (rest := [.int (m_X7_at c v 10)]) B (k_X7_at (k := 5) l E b _ _ _ _  hv (by decide)) (zcwV 2 0 B wm_X7_132 wi_X7_at wv_X7_at wn_X7 wcode_X7_at rfl (by decide +kernel) ⟨(Nat.le_of_ble_eq_true rfl), (Nat.le_of_ble_eq_true rfl)⟩) rfl (zrecv B (zat (by decide) (z111 _ _ _)) cl7) zid rfl (Nat.le_of_ble_eq_true rfl) dX7_levelAt_62 ⟨(Nat.le_of_ble_eq_true rfl), (Nat.le_of_ble_eq_true rfl)⟩ (fun v9 u9 hv9 => ?_)
      subst hv9
      refine zv_st (st' := [.int (m_X7_at c v 5), .int (m_X7_at c v 10)]) rfl ?_
      refine zv_icmp_ge (pc := 65) (tgt := 81) B dX7_levelAt_65 rfl (fun h3 => ?_) (fun h3 => ?_)
      · refine zv_iload_n (pc := 81) B 0 rfl dX7_levelAt_81 ?_
        refine zv_aload_n (pc := 82) B 1 rfl dX7_levelAt_82 ?_
        refine zv_iload_n (pc := 83) B 2 rfl dX7_levelAt_83 ?_
        refine zv_iconst (pc := 84) (v := 5) B rfl dX7_levelAt_84 ?_
        refine zv_st (st' := [.int (nI 5), .int (nI v), .ref (b + 111), .int (m_X7_at c v 10)]) rfl ?_
        refine zv_callV (pc := 85) (As := [.int (nI v), .int (nI 5)]) (rest := [.int (m_X7_at c v 10)]) B (k_X7_at (k := 5) l E b _ _ _ _  hv (by decide)) (zcwV 2 0 B wm_X7_132 wi_X7_at wv_X7_at wn_X7 wcode_X7_at rfl (by decide +kernel) ⟨(Nat.le_of_ble_eq_true rfl), (Nat.le_of_ble_eq_true rfl)⟩) rfl (zrecv B (zat (by decide) (z111 _ _ _)) cl7) zid rfl (Nat.le_of_ble_eq_true rfl) dX7_levelAt_85 ⟨(Nat.le_of_ble_eq_true rfl), (Nat.le_of_ble_eq_true rfl)⟩ (fun v9 u9 hv9 => ?_)
        subst hv9
        refine zv_st (st' := [.int (m_X7_at c v 5), .int (m_X7_at c v 10)]) rfl ?_
        refine zv_isub (pc := 88) B dX7_levelAt_88 ?_
        refine zv_istore_n (pc := 89) (L' := [(3, .int ((m_X7_at c v 10) - (m_X7_at c v 5))), (2, .int (m_X7_at c v 10)), (0, .ref (b + 111)), (1, .int (nI v))]) B (by decide) rfl dX7_levelAt_89 ?_
        refine zv_iload_n (pc := 90) B 0 rfl dX7_levelAt_90 ?_
        refine zv_aload_n (pc := 91) B 2 rfl dX7_levelAt_91 ?_
        refine zv_iload_n (pc := 92) B 3 rfl dX7_levelAt_92 ?_
        refine zv_bipush (pc := 93) (v := 6) B rfl dX7_levelAt_93 ?_
        refine zv_st (st' := [.int (nI 6), .int (nI v), .ref (b + 111), .int ((m_X7_at c v 10) - (m_X7_at c v 5))]) rfl ?_
        refine zv_callV (pc := 95) (As := [.int (nI v), .int (nI 6)]) (rest := [.int ((m_X7_at c v 10) - (m_X7_at c v 5))]) B (k_X7_at (k := 6) l E b _ _ _ _  hv (by decide)) (zcwV 2 0 B wm_X7_132 wi_X7_at wv_X7_at wn_X7 wcode_X7_at rfl (by decide +kernel) ⟨(Nat.le_of_ble_eq_true rfl), (Nat.le_of_ble_eq_true rfl)⟩) rfl (zrecv B (zat (by decide) (z111 _ _ _)) cl7) zid rfl (Nat.le_of_ble_eq_true rfl) dX7_levelAt_95 ⟨(Nat.le_of_ble_eq_true rfl), (Nat.le_of_ble_eq_true rfl)⟩ (fun v9 u9 hv9 => ?_)
        subst hv9
        refine zv_st (st' := [.int (m_X7_at c v 6), .int ((m_X7_at c v 10) - (m_X7_at c v 5))]) rfl ?_
        refine zv_icmp_ge (pc := 98) (tgt := 129) B dX7_levelAt_98 rfl (fun h4 => ?_) (fun h4 => ?_)
        · refine zv_aload_n (pc := 129) B 2 rfl dX7_levelAt_129 ?_
          refine zv_iload_n (pc := 130) B 3 rfl dX7_levelAt_130 ?_
          refine zv_bipush (pc := 131) (v := 7) B rfl dX7_levelAt_131 ?_
          refine zv_st (st' := [.int (nI 7), .int (nI v), .ref (b + 111)]) rfl ?_
          refine zv_callV (pc := 133) (As := [.int (nI v), .int (nI 7)]) (rest := []) B (k_X7_at (k := 7) l E b _ _ _ _  hv (by decide)) (zcwV 2 0 B wm_X7_132 wi_X7_at wv_X7_at wn_X7 wcode_X7_at rfl (by decide +kernel) ⟨(Nat.le_of_ble_eq_true rfl), (Nat.le_of_ble_eq_true rfl)⟩) rfl (zrecv B (zat (by decide) (z111 _ _ _)) cl7) zid rfl (Nat.le_of_ble_eq_true rfl) dX7_levelAt_133 ⟨(Nat.le_of_ble_eq_true rfl), (Nat.le_of_ble_eq_true rfl)⟩ (fun v9 u9 hv9 => ?_)
          subst hv9
          refine zv_st (st' := [.int (m_X7_at c v 7)]) rfl ?_
          have hE5 : (m_X7_at c v 7) = m_X7_levelAt c v := (by unfold m_X7_levelAt; rw [if_neg h1, if_pos h2, if_pos h3, if_pos h4])
          exact zv_iret (pc := 136) B ((m_X7_at c v 7)) hr (fun H hP => ⟨(), (congrArg (fun z => some (Value.int z)) hE5), hP⟩) (Nat.le_of_ble_eq_true rfl) (Nat.le_of_ble_eq_true rfl) dX7_levelAt_136
        · refine zv_sipush (pc := 101) (v := 1000) B rfl dX7_levelAt_101 ?_
          refine zv_sipush (pc := 104) (v := 1000) B rfl dX7_levelAt_104 ?_
          refine zv_aload_n (pc := 107) B 2 rfl dX7_levelAt_107 ?_
          refine zv_iload_n (pc := 108) B 3 rfl dX7_levelAt_108 ?_
          refine zv_bipush (pc := 109) (v := 7) B rfl dX7_levelAt_109 ?_
          refine zv_st (st' := [.int (nI 7), .int (nI v), .ref (b + 111), .int 1000, .int 1000]) rfl ?_
          refine zv_callV (pc := 111) (As := [.int (nI v), .int (nI 7)]) (rest := [.int 1000, .int 1000]) B (k_X7_at (k := 7) l E b _ _ _ _  hv (by decide)) (zcwV 2 0 B wm_X7_132 wi_X7_at wv_X7_at wn_X7 wcode_X7_at rfl (by decide +kernel) ⟨(Nat.le_of_ble_eq_true rfl), (Nat.le_of_ble_eq_true rfl)⟩) rfl (zrecv B (zat (by decide) (z111 _ _ _)) cl7) zid rfl (Nat.le_of_ble_eq_true rfl) dX7_levelAt_111 ⟨(Nat.le_of_ble_eq_true rfl), (Nat.le_of_ble_eq_true rfl)⟩ (fun v9 u9 hv9 => ?_)
          subst hv9
          refine zv_st (st' := [.int (m_X7_at c v 7), .int 1000, .int 1000]) rfl ?_
          refine zv_isub (pc := 114) B dX7_levelAt_114 ?_
          refine zv_iload_n (pc := 115) B 0 rfl dX7_levelAt_115 ?_
          refine zv_imul (pc := 116) B dX7_levelAt_116 ?_
          refine zv_aload_n (pc := 117) B 2 rfl dX7_levelAt_117 ?_
          refine zv_iload_n (pc := 118) B 3 rfl dX7_levelAt_118 ?_
          refine zv_bipush (pc := 119) (v := 6) B rfl dX7_levelAt_119 ?_
          refine zv_st (st' := [.int (nI 6), .int (nI v), .ref (b + 111), .int ((1000 - (m_X7_at c v 7)) * ((m_X7_at c v 10) - (m_X7_at c v 5))), .int 1000]) rfl ?_
          refine zv_callV (pc := 121) (As := [.int (nI v), .int (nI 6)]) (rest := [.int ((1000 - (m_X7_at c v 7)) * ((m_X7_at c v 10) - (m_X7_at c v 5))), .int 1000]) B (k_X7_at (k := 6) l E b _ _ _ _  hv (by decide)) (zcwV 2 0 B wm_X7_132 wi_X7_at wv_X7_at wn_X7 wcode_X7_at rfl (by decide +kernel) ⟨(Nat.le_of_ble_eq_true rfl), (Nat.le_of_ble_eq_true rfl)⟩) rfl (zrecv B (zat (by decide) (z111 _ _ _)) cl7) zid rfl (Nat.le_of_ble_eq_true rfl) dX7_levelAt_121 ⟨(Nat.le_of_ble_eq_true rfl), (Nat.le_of_ble_eq_true rfl)⟩ (fun v9 u9 hv9 => ?_)
          subst hv9
          refine zv_st (st' := [.int (m_X7_at c v 6), .int ((1000 - (m_X7_at c v 7)) * ((m_X7_at c v 10) - (m_X7_at c v 5))), .int 1000]) rfl ?_
          refine zv_idiv (pc := 124) B (hz3 h3 h4) dX7_levelAt_124 ?_
          refine zv_isub (pc := 125) B dX7_levelAt_125 ?_
          refine zv_goto (pc := 126) (tgt := 136) B rfl dX7_levelAt_126 ?_
          have hE6 : 1000 - (((1000 - (m_X7_at c v 7)) * ((m_X7_at c v 10) - (m_X7_at c v 5))) / (m_X7_at c v 6)) = m_X7_levelAt c v := (by unfold m_X7_levelAt; rw [if_neg h1, if_pos h2, if_pos h3, if_neg h4])
          exact zv_iret (pc := 136) B (1000 - (((1000 - (m_X7_at c v 7)) * ((m_X7_at c v 10) - (m_X7_at c v 5))) / (m_X7_at c v 6))) hr (fun H hP => ⟨(), (congrArg (fun z => some (Value.int z)) hE6), hP⟩) (Nat.le_of_ble_eq_true rfl) (Nat.le_of_ble_eq_true rfl) dX7_levelAt_136
      · refine zv_sipush (pc := 68) (v := 1000) B rfl dX7_levelAt_68 ?_
        refine zv_iload_n (pc := 71) B 0 rfl dX7_levelAt_71 ?_
        refine zv_imul (pc := 72) B dX7_levelAt_72 ?_
        refine zv_aload_n (pc := 73) B 1 rfl dX7_levelAt_73 ?_
        refine zv_iload_n (pc := 74) B 2 rfl dX7_levelAt_74 ?_
        refine zv_iconst (pc := 75) (v := 5) B rfl dX7_levelAt_75 ?_
        refine zv_st (st' := [.int (nI 5), .int (nI v), .ref (b + 111), .int (1000 * (m_X7_at c v 10))]) rfl ?_
        refine zv_callV (pc := 76) (As := [.int (nI v), .int (nI 5)]) (rest := [.int (1000 * (m_X7_at c v 10))]) B (k_X7_at (k := 5) l E b _ _ _ _  hv (by decide)) (zcwV 2 0 B wm_X7_132 wi_X7_at wv_X7_at wn_X7 wcode_X7_at rfl (by decide +kernel) ⟨(Nat.le_of_ble_eq_true rfl), (Nat.le_of_ble_eq_true rfl)⟩) rfl (zrecv B (zat (by decide) (z111 _ _ _)) cl7) zid rfl (Nat.le_of_ble_eq_true rfl) dX7_levelAt_76 ⟨(Nat.le_of_ble_eq_true rfl), (Nat.le_of_ble_eq_true rfl)⟩ (fun v9 u9 hv9 => ?_)
        subst hv9
        refine zv_st (st' := [.int (m_X7_at c v 5), .int (1000 * (m_X7_at c v 10))]) rfl ?_
        refine zv_idiv (pc := 79) B (hz2 h3) dX7_levelAt_79 ?_
        have hE7 : (1000 * (m_X7_at c v 10)) / (m_X7_at c v 5) = m_X7_levelAt c v := (by unfold m_X7_levelAt; rw [if_neg h1, if_pos h2, if_neg h3])
        exact zv_iret (pc := 80) B ((1000 * (m_X7_at c v 10)) / (m_X7_at c v 5)) hr (fun H hP => ⟨(), (congrArg (fun z => some (Value.int z)) hE7), hP⟩) (Nat.le_of_ble_eq_true rfl) (Nat.le_of_ble_eq_true rfl) dX7_levelAt_80
    · refine zv_aload_n (pc := 18) B 0 rfl dX7_levelAt_18 ?_
      refine zv_iload_n (pc := 19) B 1 rfl dX7_levelAt_19 ?_
      refine zv_bipush (pc := 20) (v := 11) B rfl dX7_levelAt_20 ?_
      refine zv_st (st' := [.int (nI 11), .int (nI v), .ref (b + 111)]) rfl ?_
      refine zv_callV (pc := 22) (As := [.int (nI v), .int (nI 11)]) (rest := []) B (k_X7_at (k := 11) l E b _ _ _ _  hv (by decide)) (zcwV 2 0 B wm_X7_132 wi_X7_at wv_X7_at wn_X7 wcode_X7_at rfl (by decide +kernel) ⟨(Nat.le_of_ble_eq_true rfl), (Nat.le_of_ble_eq_true rfl)⟩) rfl (zrecv B (zat (by decide) (z111 _ _ _)) cl7) zid rfl (Nat.le_of_ble_eq_true rfl) dX7_levelAt_22 ⟨(Nat.le_of_ble_eq_true rfl), (Nat.le_of_ble_eq_true rfl)⟩ (fun v9 u9 hv9 => ?_)
      subst hv9
      refine zv_st (st' := [.int (m_X7_at c v 11)]) rfl ?_
      refine zv_aload_n (pc := 25) B 0 rfl dX7_levelAt_25 ?_
      refine zv_iload_n (pc := 26) B 1 rfl dX7_levelAt_26 ?_
      refine zv_bipush (pc := 27) (v := 11) B rfl dX7_levelAt_27 ?_
      refine zv_st (st' := [.int (nI 11), .int (nI v), .ref (b + 111), .int (m_X7_at c v 11)]) rfl ?_
      refine zv_callV (pc := 29) (As := [.int (nI v), .int (nI 11)]) (rest := [.int (m_X7_at c v 11)]) B (k_X7_at (k := 11) l E b _ _ _ _  hv (by decide)) (zcwV 2 0 B wm_X7_132 wi_X7_at wv_X7_at wn_X7 wcode_X7_at rfl (by decide +kernel) ⟨(Nat.le_of_ble_eq_true rfl), (Nat.le_of_ble_eq_true rfl)⟩) rfl (zrecv B (zat (by decide) (z111 _ _ _)) cl7) zid rfl (Nat.le_of_ble_eq_true rfl) dX7_levelAt_29 ⟨(Nat.le_of_ble_eq_true rfl), (Nat.le_of_ble_eq_true rfl)⟩ (fun v9 u9 hv9 => ?_)
      subst hv9
      refine zv_st (st' := [.int (m_X7_at c v 11), .int (m_X7_at c v 11)]) rfl ?_
      refine zv_aload_n (pc := 32) B 0 rfl dX7_levelAt_32 ?_
      refine zv_iload_n (pc := 33) B 1 rfl dX7_levelAt_33 ?_
      refine zv_bipush (pc := 34) (v := 12) B rfl dX7_levelAt_34 ?_
      refine zv_st (st' := [.int (nI 12), .int (nI v), .ref (b + 111), .int (m_X7_at c v 11), .int (m_X7_at c v 11)]) rfl ?_
      refine zv_callV (pc := 36) (As := [.int (nI v), .int (nI 12)]) (rest := [.int (m_X7_at c v 11), .int (m_X7_at c v 11)]) B (k_X7_at (k := 12) l E b _ _ _ _  hv (by decide)) (zcwV 2 0 B wm_X7_132 wi_X7_at wv_X7_at wn_X7 wcode_X7_at rfl (by decide +kernel) ⟨(Nat.le_of_ble_eq_true rfl), (Nat.le_of_ble_eq_true rfl)⟩) rfl (zrecv B (zat (by decide) (z111 _ _ _)) cl7) zid rfl (Nat.le_of_ble_eq_true rfl) dX7_levelAt_36 ⟨(Nat.le_of_ble_eq_true rfl), (Nat.le_of_ble_eq_true rfl)⟩ (fun v9 u9 hv9 => ?_)
      subst hv9
      refine zv_st (st' := [.int (m_X7_at c v 12), .int (m_X7_at c v 11), .int (m_X7_at c v 11)]) rfl ?_
      refine zv_imul (pc := 39) B dX7_levelAt_39 ?_
      refine zv_aload_n (pc := 40) B 0 rfl dX7_levelAt_40 ?_
      refine zv_iload_n (pc := 41) B 1 rfl dX7_levelAt_41 ?_
      refine zv_bipush (pc := 42) (v := 8) B rfl dX7_levelAt_42 ?_
      refine zv_st (st' := [.int (nI 8), .int (nI v), .ref (b + 111), .int ((m_X7_at c v 11) * (m_X7_at c v 12)), .int (m_X7_at c v 11)]) rfl ?_
      refine zv_callV (pc := 44) (As := [.int (nI v), .int (nI 8)]) (rest := [.int ((m_X7_at c v 11) * (m_X7_at c v 12)), .int (m_X7_at c v 11)]) B (k_X7_at (k := 8) l E b _ _ _ _  hv (by decide)) (zcwV 2 0 B wm_X7_132 wi_X7_at wv_X7_at wn_X7 wcode_X7_at rfl (by decide +kernel) ⟨(Nat.le_of_ble_eq_true rfl), (Nat.le_of_ble_eq_true rfl)⟩) rfl (zrecv B (zat (by decide) (z111 _ _ _)) cl7) zid rfl (Nat.le_of_ble_eq_true rfl) dX7_levelAt_44 ⟨(Nat.le_of_ble_eq_true rfl), (Nat.le_of_ble_eq_true rfl)⟩ (fun v9 u9 hv9 => ?_)
      subst hv9
      refine zv_st (st' := [.int (m_X7_at c v 8), .int ((m_X7_at c v 11) * (m_X7_at c v 12)), .int (m_X7_at c v 11)]) rfl ?_
      refine zv_idiv (pc := 47) B (hz1 h2) dX7_levelAt_47 ?_
      refine zv_isub (pc := 48) B dX7_levelAt_48 ?_
      have hE8 : (m_X7_at c v 11) - (((m_X7_at c v 11) * (m_X7_at c v 12)) / (m_X7_at c v 8)) = m_X7_levelAt c v := (by unfold m_X7_levelAt; rw [if_neg h1, if_neg h2])
      exact zv_iret (pc := 49) B ((m_X7_at c v 11) - (((m_X7_at c v 11) * (m_X7_at c v 12)) / (m_X7_at c v 8))) hr (fun H hP => ⟨(), (congrArg (fun z => some (Value.int z)) hE8), hP⟩) (Nat.le_of_ble_eq_true rfl) (Nat.le_of_ble_eq_true rfl) dX7_levelAt_49
  · refine zv_iconst (pc := 8) (v := 0) B rfl dX7_levelAt_8 ?_
    have hE9 : 0 = m_X7_levelAt c v := (by unfold m_X7_levelAt; rw [if_pos h1])
    exact zv_iret (pc := 9) B (0) hr (fun H hP => ⟨(), (congrArg (fun z => some (Value.int z)) hE9), hP⟩) (Nat.le_of_ble_eq_true rfl) (Nat.le_of_ble_eq_true rfl) dX7_levelAt_9
