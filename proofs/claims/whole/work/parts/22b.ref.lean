def m_X7_wires (c : Nat → Nat → Int32) (x : Int32) : Int32 × (Nat → Nat → Int32) := if ((m_X7_checked c (m_X7_isNode c x)).1) ≤ 0 then (c 120 (zn x), (m_X7_checked c (m_X7_isNode c x)).2) else (0, (m_X7_checked c (m_X7_isNode c x)).2)
set_option maxRecDepth 100000 in
set_option maxHeartbeats 400000 in
theorem k_X7_wires (l : Launch) (E : zE) (b : Nat) (c : Nat → Nat → Int32) (w : Nat → Int64) (en : Nat → Nat) (ea : Nat → Nat → Int32) (x : Int32) (hg : zG c) : zM l yX7_wires (.code yX7_wires cX7_wires 2 (some .int) :: zAll) (zRm 2 0 0) E b [.ref (b + 111), .int x] (zH E b c w en ea) (fun v9 (_ : Unit) => v9 = some (.int (m_X7_wires c x).1) ∧ zfr 111 112 111 111 c (m_X7_wires c x).2 ∧ zG (m_X7_wires c x).2) (fun _ => zH E b ((m_X7_wires c x).2) w en ea) 0 0 := by
  refine zM_of "ToneGraphModel" (by decide) rfl rfl (Nat.le_of_ble_eq_true rfl) (L0 := [(0, .ref (b + 111)), (1, .int x)]) rfl ?_
  intro p e s m args below meth c9 B hr hname
  refine zv_aload_n (pc := 0) B 0 rfl dX7_wires_0 ?_
  refine zv_aload_n (pc := 1) B 0 rfl dX7_wires_1 ?_
  refine zv_iload_n (pc := 2) B 1 rfl dX7_wires_2 ?_
  refine zv_callV (pc := 3) (As := [.int x]) (rest := [.ref (b + 111)]) B (k_X7_isNode l E b _ _ _ _  x) (zcwV 1 1 B wm_X7_110 wi_X7_isNode wv_X7_isNode wn_X7 wcode_X7_isNode rfl (by decide +kernel) ⟨(Nat.le_of_ble_eq_true rfl), (Nat.le_of_ble_eq_true rfl)⟩) rfl (zrecv B (zat (by decide) (z111 _ _ _)) cl7) zid rfl (Nat.le_of_ble_eq_true rfl) dX7_wires_3 ⟨(Nat.le_of_ble_eq_true rfl), (Nat.le_of_ble_eq_true rfl)⟩ (fun v9 u9 hv9 => ?_)
  subst hv9
  refine zv_st (st' := [.int (m_X7_isNode c x), .ref (b + 111)]) rfl ?_
  refine zv_callV (pc := 6) (As := [.int (m_X7_isNode c x)]) (rest := []) B (k_X7_checked l E b _ _ _ _  (m_X7_isNode c x) hg) (zcwV 1 0 B wm_X7_121 wi_X7_checked wv_X7_checked wn_X7 wcode_X7_checked rfl (by decide +kernel) ⟨(Nat.le_of_ble_eq_true rfl), (Nat.le_of_ble_eq_true rfl)⟩) rfl (zrecv B (zat (by decide) (z111 _ _ _)) cl7) zid rfl (Nat.le_of_ble_eq_true rfl) dX7_wires_6 ⟨(Nat.le_of_ble_eq_true rfl), (Nat.le_of_ble_eq_true rfl)⟩ (fun v9 u9 hv9 => ?_)
  obtain ⟨rfl, hF2001, hg2001⟩ := hv9
  refine zv_st (st' := [.int ((m_X7_checked c (m_X7_isNode c x)).1)]) rfl ?_
  refine zv_if_le (pc := 9) (tgt := 16) B dX7_wires_9 rfl (fun h2 => ?_) (fun h2 => ?_)
  · have hbx : zn x < 10 := nd_ok hg (ck_le h2)
    refine zv_aload_n (pc := 16) B 0 rfl dX7_wires_16 ?_
    refine zv_get (pc := 17) (v := .ref (b + 120)) B (zat (by decide) (z111 _ _ _)) cl7 inX7 8 (by decide) wf_X7_34 rfl dX7_wires_17 ?_
    refine zv_iload_n (pc := 20) B 1 rfl dX7_wires_20 ?_
    refine zv_iald (pc := 21) (jj := (zn x)) B (zat (by decide) (z120 _ _ _)) (zn_eq x) hbx (by decide) dX7_wires_21 ?_
    refine zv_topi (y := c 120 (zn x)) (by rw [hF2001 120 (by omega)]) ?_
    have hE3 : (c 120 (zn x), (m_X7_checked c (m_X7_isNode c x)).2) = m_X7_wires c x := (by unfold m_X7_wires; rw [if_pos h2])
    exact zv_iret (pc := 22) B (c 120 (zn x)) hr (fun H hP => ⟨(), ⟨(by rw [(zp2 hE3).1]), (by rw [(zp2 hE3).2]; exact (zfr.call zfr.refl hF2001 (by omega))), (by rw [(zp2 hE3).2]; exact hg2001)⟩, (by rw [(zp2 hE3).2]; exact hP)⟩) (Nat.le_of_ble_eq_true rfl) (Nat.le_of_ble_eq_true rfl) dX7_wires_22
  · refine zv_iconst (pc := 12) (v := 0) B rfl dX7_wires_12 ?_
    refine zv_goto (pc := 13) (tgt := 22) B rfl dX7_wires_13 ?_
    have hE4 : (0, (m_X7_checked c (m_X7_isNode c x)).2) = m_X7_wires c x := (by unfold m_X7_wires; rw [if_neg h2])
    exact zv_iret (pc := 22) B (0) hr (fun H hP => ⟨(), ⟨(by rw [(zp2 hE4).1]), (by rw [(zp2 hE4).2]; exact (zfr.call zfr.refl hF2001 (by omega))), (by rw [(zp2 hE4).2]; exact hg2001)⟩, (by rw [(zp2 hE4).2]; exact hP)⟩) (Nat.le_of_ble_eq_true rfl) (Nat.le_of_ble_eq_true rfl) dX7_wires_22

def m_X7_nodeAt (c : Nat → Nat → Int32) (x : Int32) : Int32 × (Nat → Nat → Int32) := if ((m_X7_checked c (m_X7_isNode c x)).1) ≤ 0 then (c 121 (zn x), (m_X7_checked c (m_X7_isNode c x)).2) else (0, (m_X7_checked c (m_X7_isNode c x)).2)
set_option maxRecDepth 100000 in
set_option maxHeartbeats 400000 in
theorem k_X7_nodeAt (l : Launch) (E : zE) (b : Nat) (c : Nat → Nat → Int32) (w : Nat → Int64) (en : Nat → Nat) (ea : Nat → Nat → Int32) (x : Int32) (hg : zG c) : zM l yX7_nodeAt (.code yX7_nodeAt cX7_nodeAt 2 (some .int) :: zAll) (zRm 2 0 0) E b [.ref (b + 111), .int x] (zH E b c w en ea) (fun v9 (_ : Unit) => v9 = some (.int (m_X7_nodeAt c x).1) ∧ zfr 111 112 111 111 c (m_X7_nodeAt c x).2 ∧ zG (m_X7_nodeAt c x).2) (fun _ => zH E b ((m_X7_nodeAt c x).2) w en ea) 0 0 := by
  refine zM_of "ToneGraphModel" (by decide) rfl rfl (Nat.le_of_ble_eq_true rfl) (L0 := [(0, .ref (b + 111)), (1, .int x)]) rfl ?_
  intro p e s m args below meth c9 B hr hname
  refine zv_aload_n (pc := 0) B 0 rfl dX7_nodeAt_0 ?_
  refine zv_aload_n (pc := 1) B 0 rfl dX7_nodeAt_1 ?_
  refine zv_iload_n (pc := 2) B 1 rfl dX7_nodeAt_2 ?_
  refine zv_callV (pc := 3) (As := [.int x]) (rest := [.ref (b + 111)]) B (k_X7_isNode l E b _ _ _ _  x) (zcwV 1 1 B wm_X7_110 wi_X7_isNode wv_X7_isNode wn_X7 wcode_X7_isNode rfl (by decide +kernel) ⟨(Nat.le_of_ble_eq_true rfl), (Nat.le_of_ble_eq_true rfl)⟩) rfl (zrecv B (zat (by decide) (z111 _ _ _)) cl7) zid rfl (Nat.le_of_ble_eq_true rfl) dX7_nodeAt_3 ⟨(Nat.le_of_ble_eq_true rfl), (Nat.le_of_ble_eq_true rfl)⟩ (fun v9 u9 hv9 => ?_)
  subst hv9
  refine zv_st (st' := [.int (m_X7_isNode c x), .ref (b + 111)]) rfl ?_
  refine zv_callV (pc := 6) (As := [.int (m_X7_isNode c x)]) (rest := []) B (k_X7_checked l E b _ _ _ _  (m_X7_isNode c x) hg) (zcwV 1 0 B wm_X7_121 wi_X7_checked wv_X7_checked wn_X7 wcode_X7_checked rfl (by decide +kernel) ⟨(Nat.le_of_ble_eq_true rfl), (Nat.le_of_ble_eq_true rfl)⟩) rfl (zrecv B (zat (by decide) (z111 _ _ _)) cl7) zid rfl (Nat.le_of_ble_eq_true rfl) dX7_nodeAt_6 ⟨(Nat.le_of_ble_eq_true rfl), (Nat.le_of_ble_eq_true rfl)⟩ (fun v9 u9 hv9 => ?_)
  obtain ⟨rfl, hF2001, hg2001⟩ := hv9
  refine zv_st (st' := [.int ((m_X7_checked c (m_X7_isNode c x)).1)]) rfl ?_
  refine zv_if_le (pc := 9) (tgt := 16) B dX7_nodeAt_9 rfl (fun h2 => ?_) (fun h2 => ?_)
  · have hbx : zn x < 10 := nd_ok hg (ck_le h2)
    refine zv_aload_n (pc := 16) B 0 rfl dX7_nodeAt_16 ?_
    refine zv_get (pc := 17) (v := .ref (b + 121)) B (zat (by decide) (z111 _ _ _)) cl7 inX7 9 (by decide) wf_X7_37 rfl dX7_nodeAt_17 ?_
    refine zv_iload_n (pc := 20) B 1 rfl dX7_nodeAt_20 ?_
    refine zv_iald (pc := 21) (jj := (zn x)) B (zat (by decide) (z121 _ _ _)) (zn_eq x) hbx (by decide) dX7_nodeAt_21 ?_
    refine zv_topi (y := c 121 (zn x)) (by rw [hF2001 121 (by omega)]) ?_
    have hE3 : (c 121 (zn x), (m_X7_checked c (m_X7_isNode c x)).2) = m_X7_nodeAt c x := (by unfold m_X7_nodeAt; rw [if_pos h2])
    exact zv_iret (pc := 22) B (c 121 (zn x)) hr (fun H hP => ⟨(), ⟨(by rw [(zp2 hE3).1]), (by rw [(zp2 hE3).2]; exact (zfr.call zfr.refl hF2001 (by omega))), (by rw [(zp2 hE3).2]; exact hg2001)⟩, (by rw [(zp2 hE3).2]; exact hP)⟩) (Nat.le_of_ble_eq_true rfl) (Nat.le_of_ble_eq_true rfl) dX7_nodeAt_22
  · refine zv_iconst (pc := 12) (v := 0) B rfl dX7_nodeAt_12 ?_
    refine zv_goto (pc := 13) (tgt := 22) B rfl dX7_nodeAt_13 ?_
    have hE4 : (0, (m_X7_checked c (m_X7_isNode c x)).2) = m_X7_nodeAt c x := (by unfold m_X7_nodeAt; rw [if_neg h2])
    exact zv_iret (pc := 22) B (0) hr (fun H hP => ⟨(), ⟨(by rw [(zp2 hE4).1]), (by rw [(zp2 hE4).2]; exact (zfr.call zfr.refl hF2001 (by omega))), (by rw [(zp2 hE4).2]; exact hg2001)⟩, (by rw [(zp2 hE4).2]; exact hP)⟩) (Nat.le_of_ble_eq_true rfl) (Nat.le_of_ble_eq_true rfl) dX7_nodeAt_22

def m_X7_outputOf (c : Nat → Nat → Int32) (x : Int32) : Int32 × (Nat → Nat → Int32) := if ((m_X7_checked c (m_X7_isNode c x)).1) ≤ 0 then (c 112 (630 + zn x), (m_X7_checked c (m_X7_isNode c x)).2) else (0, (m_X7_checked c (m_X7_isNode c x)).2)
set_option maxRecDepth 100000 in
set_option maxHeartbeats 400000 in
theorem k_X7_outputOf (l : Launch) (E : zE) (b : Nat) (c : Nat → Nat → Int32) (w : Nat → Int64) (en : Nat → Nat) (ea : Nat → Nat → Int32) (x : Int32) (hg : zG c) : zM l yX7_outputOf (.code yX7_outputOf cX7_outputOf 2 (some .int) :: zAll) (zRm 2 0 0) E b [.ref (b + 111), .int x] (zH E b c w en ea) (fun v9 (_ : Unit) => v9 = some (.int (m_X7_outputOf c x).1) ∧ zfr 111 112 111 111 c (m_X7_outputOf c x).2 ∧ zG (m_X7_outputOf c x).2) (fun _ => zH E b ((m_X7_outputOf c x).2) w en ea) 0 0 := by
  refine zM_of "ToneGraphModel" (by decide) rfl rfl (Nat.le_of_ble_eq_true rfl) (L0 := [(0, .ref (b + 111)), (1, .int x)]) rfl ?_
  intro p e s m args below meth c9 B hr hname
  refine zv_aload_n (pc := 0) B 0 rfl dX7_outputOf_0 ?_
  refine zv_aload_n (pc := 1) B 0 rfl dX7_outputOf_1 ?_
  refine zv_iload_n (pc := 2) B 1 rfl dX7_outputOf_2 ?_
  refine zv_callV (pc := 3) (As := [.int x]) (rest := [.ref (b + 111)]) B (k_X7_isNode l E b _ _ _ _  x) (zcwV 1 1 B wm_X7_110 wi_X7_isNode wv_X7_isNode wn_X7 wcode_X7_isNode rfl (by decide +kernel) ⟨(Nat.le_of_ble_eq_true rfl), (Nat.le_of_ble_eq_true rfl)⟩) rfl (zrecv B (zat (by decide) (z111 _ _ _)) cl7) zid rfl (Nat.le_of_ble_eq_true rfl) dX7_outputOf_3 ⟨(Nat.le_of_ble_eq_true rfl), (Nat.le_of_ble_eq_true rfl)⟩ (fun v9 u9 hv9 => ?_)
  subst hv9
  refine zv_st (st' := [.int (m_X7_isNode c x), .ref (b + 111)]) rfl ?_
  refine zv_callV (pc := 6) (As := [.int (m_X7_isNode c x)]) (rest := []) B (k_X7_checked l E b _ _ _ _  (m_X7_isNode c x) hg) (zcwV 1 0 B wm_X7_121 wi_X7_checked wv_X7_checked wn_X7 wcode_X7_checked rfl (by decide +kernel) ⟨(Nat.le_of_ble_eq_true rfl), (Nat.le_of_ble_eq_true rfl)⟩) rfl (zrecv B (zat (by decide) (z111 _ _ _)) cl7) zid rfl (Nat.le_of_ble_eq_true rfl) dX7_outputOf_6 ⟨(Nat.le_of_ble_eq_true rfl), (Nat.le_of_ble_eq_true rfl)⟩ (fun v9 u9 hv9 => ?_)
  obtain ⟨rfl, hF2001, hg2001⟩ := hv9
  refine zv_st (st' := [.int ((m_X7_checked c (m_X7_isNode c x)).1)]) rfl ?_
  refine zv_if_le (pc := 9) (tgt := 16) B dX7_outputOf_9 rfl (fun h2 => ?_) (fun h2 => ?_)
  · have hbx : zn x < 10 := nd_ok hg (ck_le h2)
    refine zv_aload_n (pc := 16) B 0 rfl dX7_outputOf_16 ?_
    refine zv_get (pc := 17) (v := .ref (b + 112)) B (zat (by decide) (z111 _ _ _)) cl7 inX7 0 (by decide) wf_X7_7 rfl dX7_outputOf_17 ?_
    refine zv_sipush (pc := 20) (v := 630) B rfl dX7_outputOf_20 ?_
    refine zv_iload_n (pc := 23) B 1 rfl dX7_outputOf_23 ?_
    refine zv_iadd (pc := 24) B dX7_outputOf_24 ?_
    refine zv_topi (y := nI (630 + zn x)) (zadl rfl) ?_
    refine zv_iald (pc := 25) (jj := (630 + zn x)) B (zat (by decide) (z112 _ _ _)) rfl (by omega) (by decide) dX7_outputOf_25 ?_
    refine zv_topi (y := c 112 (630 + zn x)) (by rw [hF2001 112 (by omega)]) ?_
    have hE3 : (c 112 (630 + zn x), (m_X7_checked c (m_X7_isNode c x)).2) = m_X7_outputOf c x := (by unfold m_X7_outputOf; rw [if_pos h2])
    exact zv_iret (pc := 26) B (c 112 (630 + zn x)) hr (fun H hP => ⟨(), ⟨(by rw [(zp2 hE3).1]), (by rw [(zp2 hE3).2]; exact (zfr.call zfr.refl hF2001 (by omega))), (by rw [(zp2 hE3).2]; exact hg2001)⟩, (by rw [(zp2 hE3).2]; exact hP)⟩) (Nat.le_of_ble_eq_true rfl) (Nat.le_of_ble_eq_true rfl) dX7_outputOf_26
  · refine zv_iconst (pc := 12) (v := 0) B rfl dX7_outputOf_12 ?_
    refine zv_goto (pc := 13) (tgt := 26) B rfl dX7_outputOf_13 ?_
    have hE4 : (0, (m_X7_checked c (m_X7_isNode c x)).2) = m_X7_outputOf c x := (by unfold m_X7_outputOf; rw [if_neg h2])
    exact zv_iret (pc := 26) B (0) hr (fun H hP => ⟨(), ⟨(by rw [(zp2 hE4).1]), (by rw [(zp2 hE4).2]; exact (zfr.call zfr.refl hF2001 (by omega))), (by rw [(zp2 hE4).2]; exact hg2001)⟩, (by rw [(zp2 hE4).2]; exact hP)⟩) (Nat.le_of_ble_eq_true rfl) (Nat.le_of_ble_eq_true rfl) dX7_outputOf_26

def m_X7_setOutput (c : Nat → Nat → Int32) (x : Int32) : Int32 × (Nat → Nat → Int32) := if ((m_X7_checked c (m_X7_isNode c x)).1) ≤ 0 then (((m_X7_checked c (m_X7_isNode c x)).2) 111 14, zup ((m_X7_checked c (m_X7_isNode c x)).2) 111 14 x) else (0, (m_X7_checked c (m_X7_isNode c x)).2)
set_option maxRecDepth 100000 in
set_option maxHeartbeats 400000 in
theorem k_X7_setOutput (l : Launch) (E : zE) (b : Nat) (c : Nat → Nat → Int32) (w : Nat → Int64) (en : Nat → Nat) (ea : Nat → Nat → Int32) (x : Int32) (hg : zG c) : zM l yX7_setOutput (.code yX7_setOutput cX7_setOutput 3 (some .int) :: zAll) (zRm 2 0 0) E b [.ref (b + 111), .int x] (zH E b c w en ea) (fun v9 (_ : Unit) => v9 = some (.int (m_X7_setOutput c x).1) ∧ zfr 111 112 111 111 c (m_X7_setOutput c x).2 ∧ zG (m_X7_setOutput c x).2) (fun _ => zH E b ((m_X7_setOutput c x).2) w en ea) 0 0 := by
  refine zM_of "ToneGraphModel" (by decide) rfl rfl (Nat.le_of_ble_eq_true rfl) (L0 := [(0, .ref (b + 111)), (1, .int x)]) rfl ?_
  intro p e s m args below meth c9 B hr hname
  refine zv_aload_n (pc := 0) B 0 rfl dX7_setOutput_0 ?_
  refine zv_aload_n (pc := 1) B 0 rfl dX7_setOutput_1 ?_
  refine zv_iload_n (pc := 2) B 1 rfl dX7_setOutput_2 ?_
  refine zv_callV (pc := 3) (As := [.int x]) (rest := [.ref (b + 111)]) B (k_X7_isNode l E b _ _ _ _  x) (zcwV 1 1 B wm_X7_110 wi_X7_isNode wv_X7_isNode wn_X7 wcode_X7_isNode rfl (by decide +kernel) ⟨(Nat.le_of_ble_eq_true rfl), (Nat.le_of_ble_eq_true rfl)⟩) rfl (zrecv B (zat (by decide) (z111 _ _ _)) cl7) zid rfl (Nat.le_of_ble_eq_true rfl) dX7_setOutput_3 ⟨(Nat.le_of_ble_eq_true rfl), (Nat.le_of_ble_eq_true rfl)⟩ (fun v9 u9 hv9 => ?_)
  subst hv9
  refine zv_st (st' := [.int (m_X7_isNode c x), .ref (b + 111)]) rfl ?_
  refine zv_callV (pc := 6) (As := [.int (m_X7_isNode c x)]) (rest := []) B (k_X7_checked l E b _ _ _ _  (m_X7_isNode c x) hg) (zcwV 1 0 B wm_X7_121 wi_X7_checked wv_X7_checked wn_X7 wcode_X7_checked rfl (by decide +kernel) ⟨(Nat.le_of_ble_eq_true rfl), (Nat.le_of_ble_eq_true rfl)⟩) rfl (zrecv B (zat (by decide) (z111 _ _ _)) cl7) zid rfl (Nat.le_of_ble_eq_true rfl) dX7_setOutput_6 ⟨(Nat.le_of_ble_eq_true rfl), (Nat.le_of_ble_eq_true rfl)⟩ (fun v9 u9 hv9 => ?_)
  obtain ⟨rfl, hF2001, hg2001⟩ := hv9
  refine zv_st (st' := [.int ((m_X7_checked c (m_X7_isNode c x)).1)]) rfl ?_
  refine zv_if_le (pc := 9) (tgt := 14) B dX7_setOutput_9 rfl (fun h2 => ?_) (fun h2 => ?_)
  · have hbx : zn x < 10 := nd_ok hg (ck_le h2)
    refine zv_aload_n (pc := 14) B 0 rfl dX7_setOutput_14 ?_
    refine zv_get (pc := 15) (v := .int (((m_X7_checked c (m_X7_isNode c x)).2) 111 14)) B (zat (by decide) (z111 _ _ _)) cl7 inX7 14 (by decide) wf_X7_54 rfl dX7_setOutput_15 ?_
    refine zv_istore_n (pc := 18) (L' := [(2, .int (((m_X7_checked c (m_X7_isNode c x)).2) 111 14)), (0, .ref (b + 111)), (1, .int x)]) B (by decide) rfl dX7_setOutput_18 ?_
    refine zv_aload_n (pc := 19) B 1 rfl dX7_setOutput_19 ?_
    refine zv_iload_n (pc := 20) B 2 rfl dX7_setOutput_20 ?_
    refine zs_put9 (pc := 21) (f := 14) (F := fun x9 => [.ref (b + 112), .ref (b + 113), .ref (b + 114), .ref (b + 115), .ref (b + 116), .ref (b + 117), .ref (b + 118), .ref (b + 119), .ref (b + 120), .ref (b + 121), .ref (b + 122), .ref (b + 123), .int (x9 12), .int (x9 13), .int (x9 14), .int (x9 15), .int (x9 16), .int (x9 17), .int (x9 18), .int (x9 19), .int (x9 20), .int (x9 21), .int (x9 22), .int (x9 23), .int (x9 24), .long (w 111)]) B zid (by decide) rfl (fun x => z111 x _ _) cl7 inX7 tyX7 tyX7_ok nmX7 (by decide) wf_X7_54 rfl rfl rfl rfl (Nat.le_of_ble_eq_true rfl) (fun _ _ => rfl) dX7_setOutput_21 ?_
    refine zv_iload_n (pc := 24) B 0 rfl dX7_setOutput_24 ?_
    have hE3 : (((m_X7_checked c (m_X7_isNode c x)).2) 111 14, zup ((m_X7_checked c (m_X7_isNode c x)).2) 111 14 x) = m_X7_setOutput c x := (by unfold m_X7_setOutput; rw [if_pos h2])
    exact zv_iret (pc := 25) B (((m_X7_checked c (m_X7_isNode c x)).2) 111 14) hr (fun H hP => ⟨(), ⟨(by rw [(zp2 hE3).1]), (by rw [(zp2 hE3).2]; exact (zfr.up (zfr.call zfr.refl hF2001 (by omega)) (by omega))), (by rw [(zp2 hE3).2]; exact (zG.up hg2001 (show zn _ ≤ 9 from (by have h8 := hbx; omega))))⟩, (by rw [(zp2 hE3).2]; exact hP)⟩) (Nat.le_of_ble_eq_true rfl) (Nat.le_of_ble_eq_true rfl) dX7_setOutput_25
  · refine zv_iconst (pc := 12) (v := 0) B rfl dX7_setOutput_12 ?_
    have hE4 : (0, (m_X7_checked c (m_X7_isNode c x)).2) = m_X7_setOutput c x := (by unfold m_X7_setOutput; rw [if_neg h2])
    exact zv_iret (pc := 13) B (0) hr (fun H hP => ⟨(), ⟨(by rw [(zp2 hE4).1]), (by rw [(zp2 hE4).2]; exact (zfr.call zfr.refl hF2001 (by omega))), (by rw [(zp2 hE4).2]; exact hg2001)⟩, (by rw [(zp2 hE4).2]; exact hP)⟩) (Nat.le_of_ble_eq_true rfl) (Nat.le_of_ble_eq_true rfl) dX7_setOutput_13

def m_X7_kindOf (c : Nat → Nat → Int32) (x : Int32) : Int32 × (Nat → Nat → Int32) := if ((m_X7_checked c (m_X7_isNode c x)).1) ≤ 0 then (if (c 114 (zn x)) = 0 then (118, (m_X7_checked c (m_X7_isNode c x)).2) else (if (c 114 (zn x)) = 1 then (103, (m_X7_checked c (m_X7_isNode c x)).2) else (if (c 114 (zn x)) = 2 then (100, (m_X7_checked c (m_X7_isNode c x)).2) else (if (c 114 (zn x)) = 3 then (102, (m_X7_checked c (m_X7_isNode c x)).2) else (98, (m_X7_checked c (m_X7_isNode c x)).2))))) else (97, (m_X7_checked c (m_X7_isNode c x)).2)
set_option maxRecDepth 100000 in
set_option maxHeartbeats 400000 in
theorem k_X7_kindOf (l : Launch) (E : zE) (b : Nat) (c : Nat → Nat → Int32) (w : Nat → Int64) (en : Nat → Nat) (ea : Nat → Nat → Int32) (x : Int32) (hg : zG c) : zM l yX7_kindOf (.code yX7_kindOf cX7_kindOf 3 (some .char) :: zAll) (zRm 2 0 0) E b [.ref (b + 111), .int x] (zH E b c w en ea) (fun v9 (_ : Unit) => v9 = some (.int (m_X7_kindOf c x).1) ∧ zfr 111 112 111 111 c (m_X7_kindOf c x).2 ∧ zG (m_X7_kindOf c x).2) (fun _ => zH E b ((m_X7_kindOf c x).2) w en ea) 0 0 := by
  refine zM_of "ToneGraphModel" (by decide) rfl rfl (Nat.le_of_ble_eq_true rfl) (L0 := [(0, .ref (b + 111)), (1, .int x)]) rfl ?_
  intro p e s m args below meth c9 B hr hname
  refine zv_aload_n (pc := 0) B 0 rfl dX7_kindOf_0 ?_
  refine zv_aload_n (pc := 1) B 0 rfl dX7_kindOf_1 ?_
  refine zv_iload_n (pc := 2) B 1 rfl dX7_kindOf_2 ?_
  refine zv_callV (pc := 3) (As := [.int x]) (rest := [.ref (b + 111)]) B (k_X7_isNode l E b _ _ _ _  x) (zcwV 1 1 B wm_X7_110 wi_X7_isNode wv_X7_isNode wn_X7 wcode_X7_isNode rfl (by decide +kernel) ⟨(Nat.le_of_ble_eq_true rfl), (Nat.le_of_ble_eq_true rfl)⟩) rfl (zrecv B (zat (by decide) (z111 _ _ _)) cl7) zid rfl (Nat.le_of_ble_eq_true rfl) dX7_kindOf_3 ⟨(Nat.le_of_ble_eq_true rfl), (Nat.le_of_ble_eq_true rfl)⟩ (fun v9 u9 hv9 => ?_)
  subst hv9
  refine zv_st (st' := [.int (m_X7_isNode c x), .ref (b + 111)]) rfl ?_
  refine zv_callV (pc := 6) (As := [.int (m_X7_isNode c x)]) (rest := []) B (k_X7_checked l E b _ _ _ _  (m_X7_isNode c x) hg) (zcwV 1 0 B wm_X7_121 wi_X7_checked wv_X7_checked wn_X7 wcode_X7_checked rfl (by decide +kernel) ⟨(Nat.le_of_ble_eq_true rfl), (Nat.le_of_ble_eq_true rfl)⟩) rfl (zrecv B (zat (by decide) (z111 _ _ _)) cl7) zid rfl (Nat.le_of_ble_eq_true rfl) dX7_kindOf_6 ⟨(Nat.le_of_ble_eq_true rfl), (Nat.le_of_ble_eq_true rfl)⟩ (fun v9 u9 hv9 => ?_)
  obtain ⟨rfl, hF2001, hg2001⟩ := hv9
  refine zv_st (st' := [.int ((m_X7_checked c (m_X7_isNode c x)).1)]) rfl ?_
  refine zv_if_le (pc := 9) (tgt := 15) B dX7_kindOf_9 rfl (fun h2 => ?_) (fun h2 => ?_)
  · have hbx : zn x < 10 := nd_ok hg (ck_le h2)
    refine zv_aload_n (pc := 15) B 0 rfl dX7_kindOf_15 ?_
    refine zv_get (pc := 16) (v := .ref (b + 114)) B (zat (by decide) (z111 _ _ _)) cl7 inX7 2 (by decide) wf_X7_16 rfl dX7_kindOf_16 ?_
    refine zv_iload_n (pc := 19) B 1 rfl dX7_kindOf_19 ?_
    refine zv_iald (pc := 20) (jj := (zn x)) B (zat (by decide) (z114 _ _ _)) (zn_eq x) hbx (by decide) dX7_kindOf_20 ?_
    refine zv_topi (y := c 114 (zn x)) (by rw [hF2001 114 (by omega)]) ?_
    refine zv_istore_n (pc := 21) (L' := [(2, .int (c 114 (zn x))), (0, .ref (b + 111)), (1, .int x)]) B (by decide) rfl dX7_kindOf_21 ?_
    refine zv_iload_n (pc := 22) B 0 rfl dX7_kindOf_22 ?_
    refine zv_if_ne (pc := 23) (tgt := 31) B dX7_kindOf_23 rfl (fun h3 => ?_) (fun h3 => ?_)
    · refine zv_iload_n (pc := 31) B 0 rfl dX7_kindOf_31 ?_
      refine zv_iconst (pc := 32) (v := 1) B rfl dX7_kindOf_32 ?_
      refine zv_icmp_ne (pc := 33) (tgt := 41) B dX7_kindOf_33 rfl (fun h4 => ?_) (fun h4 => ?_)
      · refine zv_iload_n (pc := 41) B 0 rfl dX7_kindOf_41 ?_
        refine zv_iconst (pc := 42) (v := 2) B rfl dX7_kindOf_42 ?_
        refine zv_icmp_ne (pc := 43) (tgt := 51) B dX7_kindOf_43 rfl (fun h5 => ?_) (fun h5 => ?_)
        · refine zv_iload_n (pc := 51) B 0 rfl dX7_kindOf_51 ?_
          refine zv_iconst (pc := 52) (v := 3) B rfl dX7_kindOf_52 ?_
          refine zv_icmp_ne (pc := 53) (tgt := 61) B dX7_kindOf_53 rfl (fun h6 => ?_) (fun h6 => ?_)
          · refine zv_bipush (pc := 61) (v := 98) B rfl dX7_kindOf_61 ?_
            have hE7 : (98, (m_X7_checked c (m_X7_isNode c x)).2) = m_X7_kindOf c x := (by unfold m_X7_kindOf; rw [if_pos h2, if_neg h3, if_neg h4, if_neg h5, if_neg h6])
            exact zv_zret (pc := 63) B (98) rfl hr (fun H hP => ⟨(), ⟨(by rw [(zp2 hE7).1]), (by rw [(zp2 hE7).2]; exact (zfr.call zfr.refl hF2001 (by omega))), (by rw [(zp2 hE7).2]; exact hg2001)⟩, (by rw [(zp2 hE7).2]; exact hP)⟩) (Nat.le_of_ble_eq_true rfl) (Nat.le_of_ble_eq_true rfl) dX7_kindOf_63
          · refine zv_bipush (pc := 56) (v := 102) B rfl dX7_kindOf_56 ?_
            refine zv_goto (pc := 58) (tgt := 63) B rfl dX7_kindOf_58 ?_
            have hE8 : (102, (m_X7_checked c (m_X7_isNode c x)).2) = m_X7_kindOf c x := (by unfold m_X7_kindOf; rw [if_pos h2, if_neg h3, if_neg h4, if_neg h5, if_pos h6])
            exact zv_zret (pc := 63) B (102) rfl hr (fun H hP => ⟨(), ⟨(by rw [(zp2 hE8).1]), (by rw [(zp2 hE8).2]; exact (zfr.call zfr.refl hF2001 (by omega))), (by rw [(zp2 hE8).2]; exact hg2001)⟩, (by rw [(zp2 hE8).2]; exact hP)⟩) (Nat.le_of_ble_eq_true rfl) (Nat.le_of_ble_eq_true rfl) dX7_kindOf_63
        · refine zv_bipush (pc := 46) (v := 100) B rfl dX7_kindOf_46 ?_
          refine zv_goto (pc := 48) (tgt := 63) B rfl dX7_kindOf_48 ?_
          have hE9 : (100, (m_X7_checked c (m_X7_isNode c x)).2) = m_X7_kindOf c x := (by unfold m_X7_kindOf; rw [if_pos h2, if_neg h3, if_neg h4, if_pos h5])
          exact zv_zret (pc := 63) B (100) rfl hr (fun H hP => ⟨(), ⟨(by rw [(zp2 hE9).1]), (by rw [(zp2 hE9).2]; exact (zfr.call zfr.refl hF2001 (by omega))), (by rw [(zp2 hE9).2]; exact hg2001)⟩, (by rw [(zp2 hE9).2]; exact hP)⟩) (Nat.le_of_ble_eq_true rfl) (Nat.le_of_ble_eq_true rfl) dX7_kindOf_63
      · refine zv_bipush (pc := 36) (v := 103) B rfl dX7_kindOf_36 ?_
        refine zv_goto (pc := 38) (tgt := 63) B rfl dX7_kindOf_38 ?_
        have hE10 : (103, (m_X7_checked c (m_X7_isNode c x)).2) = m_X7_kindOf c x := (by unfold m_X7_kindOf; rw [if_pos h2, if_neg h3, if_pos h4])
        exact zv_zret (pc := 63) B (103) rfl hr (fun H hP => ⟨(), ⟨(by rw [(zp2 hE10).1]), (by rw [(zp2 hE10).2]; exact (zfr.call zfr.refl hF2001 (by omega))), (by rw [(zp2 hE10).2]; exact hg2001)⟩, (by rw [(zp2 hE10).2]; exact hP)⟩) (Nat.le_of_ble_eq_true rfl) (Nat.le_of_ble_eq_true rfl) dX7_kindOf_63
    · refine zv_bipush (pc := 26) (v := 118) B rfl dX7_kindOf_26 ?_
      refine zv_goto (pc := 28) (tgt := 63) B rfl dX7_kindOf_28 ?_
      have hE11 : (118, (m_X7_checked c (m_X7_isNode c x)).2) = m_X7_kindOf c x := (by unfold m_X7_kindOf; rw [if_pos h2, if_pos h3])
      exact zv_zret (pc := 63) B (118) rfl hr (fun H hP => ⟨(), ⟨(by rw [(zp2 hE11).1]), (by rw [(zp2 hE11).2]; exact (zfr.call zfr.refl hF2001 (by omega))), (by rw [(zp2 hE11).2]; exact hg2001)⟩, (by rw [(zp2 hE11).2]; exact hP)⟩) (Nat.le_of_ble_eq_true rfl) (Nat.le_of_ble_eq_true rfl) dX7_kindOf_63
  · refine zv_bipush (pc := 12) (v := 97) B rfl dX7_kindOf_12 ?_
    have hE12 : (97, (m_X7_checked c (m_X7_isNode c x)).2) = m_X7_kindOf c x := (by unfold m_X7_kindOf; rw [if_neg h2])
    exact zv_zret (pc := 14) B (97) rfl hr (fun H hP => ⟨(), ⟨(by rw [(zp2 hE12).1]), (by rw [(zp2 hE12).2]; exact (zfr.call zfr.refl hF2001 (by omega))), (by rw [(zp2 hE12).2]; exact hg2001)⟩, (by rw [(zp2 hE12).2]; exact hP)⟩) (Nat.le_of_ble_eq_true rfl) (Nat.le_of_ble_eq_true rfl) dX7_kindOf_14
