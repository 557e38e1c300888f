def m_X6_meanEnergy (c : Nat → Nat → Int32) (w : Nat → Int64) : String ⊕ UInt64 := xb (m_X6_refuseSilence c) (fun u1 => .inr (FP.ddiv (FP.l2d (w 106)) (FP.i2d (c 106 1))))
set_option maxRecDepth 100000 in
set_option maxHeartbeats 400000 in
theorem k_X6_meanEnergy (l : Launch) (E : zE) (b : Nat) (c : Nat → Nat → Int32) (w : Nat → Int64) (en : Nat → Nat) (ea : Nat → Nat → Int32)  (hg : zG c) (hlf : l.stackTraces = false) : zX l yX6_meanEnergy (.code yX6_meanEnergy cX6_meanEnergy 1 (some .double) :: zAll) (zRm 7 1 6) E b [.ref (b + 0)] (zH E b c w en ea) (fun v9 (u9 : UInt64) => (m_X6_meanEnergy c w) = .inr u9 ∧ v9 = some (.double u9)) (fun (u9 : UInt64) => zH E b c w en ea) (fun X9 => (m_X6_meanEnergy c w) = .inl X9) 1 6 := by
  refine zX_of "ToneGraph" (by decide) rfl rfl (Nat.le_of_ble_eq_true rfl) (L0 := [(0, .ref (b + 0))]) rfl ?_
  intro p e s m args below meth c9 B hr htab
  refine zv_aload_n (pc := 0) B 0 rfl dX6_meanEnergy_0 ?_
  have hX1 : (xb (m_X6_refuseSilence c) (fun u1 => .inr (FP.ddiv (FP.l2d (w 106)) (FP.i2d (c 106 1)))) : String ⊕ UInt64) = m_X6_meanEnergy c w := (by unfold m_X6_meanEnergy; rfl)
  refine zv_callVX (pc := 1) (As := []) (rest := []) B (k_X6_refuseSilence l E b _ _ _ _  hlf) (zcwV 0 6 B wm_X6_246 wi_X6_refuseSilence wv_X6_refuseSilence wn_X6 wcode_X6_refuseSilence rfl (by decide +kernel) ⟨(Nat.le_of_ble_eq_true rfl), (Nat.le_of_ble_eq_true rfl)⟩) rfl (zrecv B (zat (by decide) (z0 _ _ _)) cl6) zid rfl (Nat.le_of_ble_eq_true rfl) dX6_meanEnergy_1 ⟨(Nat.le_of_ble_eq_true rfl), (Nat.le_of_ble_eq_true rfl)⟩ (fun X9 hX9 => zx_out B htab (xb_inl hX1 hX9) zid (Nat.le_of_ble_eq_true rfl) (Nat.le_of_ble_eq_true rfl)) (fun v9 u1 hv9 => ?_)
  obtain ⟨hu1, rfl⟩ := hv9
  have hE3001 : (.inr (FP.ddiv (FP.l2d (w 106)) (FP.i2d (c 106 1))) : String ⊕ UInt64) = m_X6_meanEnergy c w := by have h9 := xb_inr hX1 hu1; exact h9
  refine zv_st (st' := []) rfl ?_
  have hne := rs_ok hu1
  refine zv_aload_n (pc := 4) B 0 rfl dX6_meanEnergy_4 ?_
  refine zv_get (pc := 5) (v := .ref (b + 106)) B (zat (by decide) (z0 _ _ _)) cl6 inX6 3 (by decide) wf_X6_31 rfl dX6_meanEnergy_5 ?_
  refine zv_get (pc := 8) (v := .long (w 106)) B (zat (by decide) (z106 _ _ _)) cl3 inX3 3 (by decide) wf_X6_242 rfl dX6_meanEnergy_8 ?_
  refine zv_l2d (pc := 11) B dX6_meanEnergy_11 ?_
  refine zv_aload_n (pc := 12) B 0 rfl dX6_meanEnergy_12 ?_
  refine zv_get (pc := 13) (v := .ref (b + 106)) B (zat (by decide) (z0 _ _ _)) cl6 inX6 3 (by decide) wf_X6_31 rfl dX6_meanEnergy_13 ?_
  refine zv_get (pc := 16) (v := .int (c 106 1)) B (zat (by decide) (z106 _ _ _)) cl3 inX3 1 (by decide) wf_X6_230 rfl dX6_meanEnergy_16 ?_
  refine zv_i2d (pc := 19) B dX6_meanEnergy_19 ?_
  refine zv_ddiv (pc := 20) B (zfp_dd _ hne) dX6_meanEnergy_20 ?_
  have hE2 : (.inr (FP.ddiv (FP.l2d (w 106)) (FP.i2d (c 106 1))) : String ⊕ UInt64) = m_X6_meanEnergy c w := hE3001
  exact zx_dret (pc := 21) B (FP.ddiv (FP.l2d (w 106)) (FP.i2d (c 106 1))) hr (fun H hP => ⟨FP.ddiv (FP.l2d (w 106)) (FP.i2d (c 106 1)), ⟨hE2.symm, rfl⟩, hP⟩) (Nat.le_of_ble_eq_true rfl) (Nat.le_of_ble_eq_true rfl) dX6_meanEnergy_21

def m_X6_quietShare (c : Nat → Nat → Int32) : String ⊕ UInt32 := xb (m_X6_refuseSilence c) (fun u1 => .inr (FP.fdiv (FP.i2f (c 106 4)) (FP.i2f (c 106 1))))
set_option maxRecDepth 100000 in
set_option maxHeartbeats 400000 in
theorem k_X6_quietShare (l : Launch) (E : zE) (b : Nat) (c : Nat → Nat → Int32) (w : Nat → Int64) (en : Nat → Nat) (ea : Nat → Nat → Int32)  (hg : zG c) (hlf : l.stackTraces = false) : zX l yX6_quietShare (.code yX6_quietShare cX6_quietShare 1 (some .float) :: zAll) (zRm 7 1 6) E b [.ref (b + 0)] (zH E b c w en ea) (fun v9 (u9 : UInt32) => (m_X6_quietShare c) = .inr u9 ∧ v9 = some (.float u9)) (fun (u9 : UInt32) => zH E b c w en ea) (fun X9 => (m_X6_quietShare c) = .inl X9) 1 6 := by
  refine zX_of "ToneGraph" (by decide) rfl rfl (Nat.le_of_ble_eq_true rfl) (L0 := [(0, .ref (b + 0))]) rfl ?_
  intro p e s m args below meth c9 B hr htab
  refine zv_aload_n (pc := 0) B 0 rfl dX6_quietShare_0 ?_
  have hX1 : (xb (m_X6_refuseSilence c) (fun u1 => .inr (FP.fdiv (FP.i2f (c 106 4)) (FP.i2f (c 106 1)))) : String ⊕ UInt32) = m_X6_quietShare c := (by unfold m_X6_quietShare; rfl)
  refine zv_callVX (pc := 1) (As := []) (rest := []) B (k_X6_refuseSilence l E b _ _ _ _  hlf) (zcwV 0 6 B wm_X6_246 wi_X6_refuseSilence wv_X6_refuseSilence wn_X6 wcode_X6_refuseSilence rfl (by decide +kernel) ⟨(Nat.le_of_ble_eq_true rfl), (Nat.le_of_ble_eq_true rfl)⟩) rfl (zrecv B (zat (by decide) (z0 _ _ _)) cl6) zid rfl (Nat.le_of_ble_eq_true rfl) dX6_quietShare_1 ⟨(Nat.le_of_ble_eq_true rfl), (Nat.le_of_ble_eq_true rfl)⟩ (fun X9 hX9 => zx_out B htab (xb_inl hX1 hX9) zid (Nat.le_of_ble_eq_true rfl) (Nat.le_of_ble_eq_true rfl)) (fun v9 u1 hv9 => ?_)
  obtain ⟨hu1, rfl⟩ := hv9
  have hE3001 : (.inr (FP.fdiv (FP.i2f (c 106 4)) (FP.i2f (c 106 1))) : String ⊕ UInt32) = m_X6_quietShare c := by have h9 := xb_inr hX1 hu1; exact h9
  refine zv_st (st' := []) rfl ?_
  have hne := rs_ok hu1
  refine zv_aload_n (pc := 4) B 0 rfl dX6_quietShare_4 ?_
  refine zv_get (pc := 5) (v := .ref (b + 106)) B (zat (by decide) (z0 _ _ _)) cl6 inX6 3 (by decide) wf_X6_31 rfl dX6_quietShare_5 ?_
  refine zv_get (pc := 8) (v := .int (c 106 4)) B (zat (by decide) (z106 _ _ _)) cl3 inX3 4 (by decide) wf_X6_249 rfl dX6_quietShare_8 ?_
  refine zv_i2f (pc := 11) B dX6_quietShare_11 ?_
  refine zv_aload_n (pc := 12) B 0 rfl dX6_quietShare_12 ?_
  refine zv_get (pc := 13) (v := .ref (b + 106)) B (zat (by decide) (z0 _ _ _)) cl6 inX6 3 (by decide) wf_X6_31 rfl dX6_quietShare_13 ?_
  refine zv_get (pc := 16) (v := .int (c 106 1)) B (zat (by decide) (z106 _ _ _)) cl3 inX3 1 (by decide) wf_X6_230 rfl dX6_quietShare_16 ?_
  refine zv_i2f (pc := 19) B dX6_quietShare_19 ?_
  refine zv_fdiv (pc := 20) B (zfp_ff _ hne) dX6_quietShare_20 ?_
  have hE2 : (.inr (FP.fdiv (FP.i2f (c 106 4)) (FP.i2f (c 106 1))) : String ⊕ UInt32) = m_X6_quietShare c := hE3001
  exact zx_fret (pc := 21) B (FP.fdiv (FP.i2f (c 106 4)) (FP.i2f (c 106 1))) hr (fun H hP => ⟨FP.fdiv (FP.i2f (c 106 4)) (FP.i2f (c 106 1)), ⟨hE2.symm, rfl⟩, hP⟩) (Nat.le_of_ble_eq_true rfl) (Nat.le_of_ble_eq_true rfl) dX6_quietShare_21

theorem zpos_ne {x : Int32} (h : ¬ x ≤ 0) : ¬ x = 0 := fun q => h (by rw [q]; decide)
def m_X7_meanEnergy (c : Nat → Nat → Int32) (w : Nat → Int64) : UInt64 × (Nat → Nat → Int32) := if (c 111 22) ≤ 0 then (FP.dconst0, (m_X7_checked c 0).2) else (FP.ddiv (FP.l2d (w 111)) (FP.i2d (c 111 22)), (m_X7_checked c 1).2)
set_option maxRecDepth 100000 in
set_option maxHeartbeats 400000 in
theorem k_X7_meanEnergy (l : Launch) (E : zE) (b : Nat) (c : Nat → Nat → Int32) (w : Nat → Int64) (en : Nat → Nat) (ea : Nat → Nat → Int32)  (hg : zG c) : zM l yX7_meanEnergy (.code yX7_meanEnergy cX7_meanEnergy 1 (some .double) :: zAll) (zRm 1 0 0) E b [.ref (b + 111)] (zH E b c w en ea) (fun v9 (_ : Unit) => v9 = some (.double (m_X7_meanEnergy c w).1) ∧ zfr 111 112 111 111 c (m_X7_meanEnergy c w).2 ∧ zG (m_X7_meanEnergy c w).2) (fun _ => zH E b ((m_X7_meanEnergy c w).2) w en ea) 0 0 := by
  refine zM_of "ToneGraphModel" (by decide) rfl rfl (Nat.le_of_ble_eq_true rfl) (L0 := [(0, .ref (b + 111))]) rfl ?_
  intro p e s m args below meth c9 B hr hname
  refine zv_aload_n (pc := 0) B 0 rfl dX7_meanEnergy_0 ?_
  refine zv_aload_n (pc := 1) B 0 rfl dX7_meanEnergy_1 ?_
  refine zv_get (pc := 2) (v := .int (c 111 22)) B (zat (by decide) (z111 _ _ _)) cl7 inX7 22 (by decide) wf_X7_78 rfl dX7_meanEnergy_2 ?_
  refine zv_if_le (pc := 5) (tgt := 12) B dX7_meanEnergy_5 rfl (fun h1 => ?_) (fun h1 => ?_)
  · refine zv_iconst (pc := 12) (v := 0) B rfl dX7_meanEnergy_12 ?_
    refine zv_callV (pc := 13) (As := [.int 0]) (rest := []) B (k_X7_checked l E b _ _ _ _  0 hg) (zcwV 1 0 B wm_X7_121 wi_X7_checked wv_X7_checked wn_X7 wcode_X7_checked rfl (by decide +kernel) ⟨(Nat.le_of_ble_eq_true rfl), (Nat.le_of_ble_eq_true rfl)⟩) rfl (zrecv B (zat (by decide) (z111 _ _ _)) cl7) zid rfl (Nat.le_of_ble_eq_true rfl) dX7_meanEnergy_13 ⟨(Nat.le_of_ble_eq_true rfl), (Nat.le_of_ble_eq_true rfl)⟩ (fun v9 u9 hv9 => ?_)
    obtain ⟨rfl, hF2002, hg2002⟩ := hv9
    refine zv_st (st' := [.int ((m_X7_checked c 0).1)]) rfl ?_
    refine zv_if_le (pc := 16) (tgt := 23) B dX7_meanEnergy_16 rfl (fun h9 => absurd h9 (ck1 _)) (fun _ => ?_)
    refine zv_dconst0 (pc := 19) B dX7_meanEnergy_19 ?_
    refine zv_goto (pc := 20) (tgt := 34) B rfl dX7_meanEnergy_20 ?_
    have hE4 : (FP.dconst0, (m_X7_checked c 0).2) = m_X7_meanEnergy c w := (by unfold m_X7_meanEnergy; rw [if_pos h1])
    exact zv_dret (pc := 34) B (FP.dconst0) hr (fun H hP => ⟨(), ⟨(by rw [(zp2 hE4).1]), (by rw [(zp2 hE4).2]; exact (zfr.call2 zfr.refl hF2002 (by omega))), (by rw [(zp2 hE4).2]; exact hg2002)⟩, (by rw [(zp2 hE4).2]; exact hP)⟩) (Nat.le_of_ble_eq_true rfl) (Nat.le_of_ble_eq_true rfl) dX7_meanEnergy_34
  · have hne : ¬ c 111 22 = 0 := zpos_ne h1
    refine zv_iconst (pc := 8) (v := 1) B rfl dX7_meanEnergy_8 ?_
    refine zv_goto (pc := 9) (tgt := 13) B rfl dX7_meanEnergy_9 ?_
    refine zv_callV (pc := 13) (As := [.int 1]) (rest := []) B (k_X7_checked l E b _ _ _ _  1 hg) (zcwV 1 0 B wm_X7_121 wi_X7_checked wv_X7_checked wn_X7 wcode_X7_checked rfl (by decide +kernel) ⟨(Nat.le_of_ble_eq_true rfl), (Nat.le_of_ble_eq_true rfl)⟩) rfl (zrecv B (zat (by decide) (z111 _ _ _)) cl7) zid rfl (Nat.le_of_ble_eq_true rfl) dX7_meanEnergy_13 ⟨(Nat.le_of_ble_eq_true rfl), (Nat.le_of_ble_eq_true rfl)⟩ (fun v9 u9 hv9 => ?_)
    obtain ⟨rfl, hF2005, hg2005⟩ := hv9
    refine zv_st (st' := [.int ((m_X7_checked c 1).1)]) rfl ?_
    refine zv_if_le (pc := 16) (tgt := 23) B dX7_meanEnergy_16 rfl (fun _ => ?_) (fun h9 => absurd (ck0 _) h9)
    refine zv_aload_n (pc := 23) B 0 rfl dX7_meanEnergy_23 ?_
    refine zv_get (pc := 24) (v := .long (w 111)) B (zat (by decide) (z111 _ _ _)) cl7 inX7 25 (by decide) wf_X7_87 rfl dX7_meanEnergy_24 ?_
    refine zv_l2d (pc := 27) B dX7_meanEnergy_27 ?_
    refine zv_aload_n (pc := 28) B 0 rfl dX7_meanEnergy_28 ?_
    refine zv_get (pc := 29) (v := .int (((m_X7_checked c 1).2) 111 22)) B (zat (by decide) (z111 _ _ _)) cl7 inX7 22 (by decide) wf_X7_78 rfl dX7_meanEnergy_29 ?_
    refine zv_topi (y := c 111 22) (ck_f _ _ (by decide)) ?_
    refine zv_i2d (pc := 32) B dX7_meanEnergy_32 ?_
    refine zv_ddiv (pc := 33) B (zfp_dd _ hne) dX7_meanEnergy_33 ?_
    have hE7 : (FP.ddiv (FP.l2d (w 111)) (FP.i2d (c 111 22)), (m_X7_checked c 1).2) = m_X7_meanEnergy c w := (by unfold m_X7_meanEnergy; rw [if_neg h1])
    exact zv_dret (pc := 34) B (FP.ddiv (FP.l2d (w 111)) (FP.i2d (c 111 22))) hr (fun H hP => ⟨(), ⟨(by rw [(zp2 hE7).1]), (by rw [(zp2 hE7).2]; exact (zfr.call2 zfr.refl hF2005 (by omega))), (by rw [(zp2 hE7).2]; exact hg2005)⟩, (by rw [(zp2 hE7).2]; exact hP)⟩) (Nat.le_of_ble_eq_true rfl) (Nat.le_of_ble_eq_true rfl) dX7_meanEnergy_34

def m_X7_quietShare (c : Nat → Nat → Int32) : UInt32 × (Nat → Nat → Int32) := if (c 111 22) ≤ 0 then (FP.fconst0, (m_X7_checked c 0).2) else (FP.fdiv (FP.i2f (c 111 24)) (FP.i2f (c 111 22)), (m_X7_checked c 1).2)
set_option maxRecDepth 100000 in
set_option maxHeartbeats 400000 in
theorem k_X7_quietShare (l : Launch) (E : zE) (b : Nat) (c : Nat → Nat → Int32) (w : Nat → Int64) (en : Nat → Nat) (ea : Nat → Nat → Int32)  (hg : zG c) : zM l yX7_quietShare (.code yX7_quietShare cX7_quietShare 1 (some .float) :: zAll) (zRm 1 0 0) E b [.ref (b + 111)] (zH E b c w en ea) (fun v9 (_ : Unit) => v9 = some (.float (m_X7_quietShare c).1) ∧ zfr 111 112 111 111 c (m_X7_quietShare c).2 ∧ zG (m_X7_quietShare c).2) (fun _ => zH E b ((m_X7_quietShare c).2) w en ea) 0 0 := by
  refine zM_of "ToneGraphModel" (by decide) rfl rfl (Nat.le_of_ble_eq_true rfl) (L0 := [(0, .ref (b + 111))]) rfl ?_
  intro p e s m args below meth c9 B hr hname
  refine zv_aload_n (pc := 0) B 0 rfl dX7_quietShare_0 ?_
  refine zv_aload_n (pc := 1) B 0 rfl dX7_quietShare_1 ?_
  refine zv_get (pc := 2) (v := .int (c 111 22)) B (zat (by decide) (z111 _ _ _)) cl7 inX7 22 (by decide) wf_X7_78 rfl dX7_quietShare_2 ?_
  refine zv_if_le (pc := 5) (tgt := 12) B dX7_quietShare_5 rfl (fun h1 => ?_) (fun h1 => ?_)
  · refine zv_iconst (pc := 12) (v := 0) B rfl dX7_quietShare_12 ?_
    refine zv_callV (pc := 13) (As := [.int 0]) (rest := []) B (k_X7_checked l E b _ _ _ _  0 hg) (zcwV 1 0 B wm_X7_121 wi_X7_checked wv_X7_checked wn_X7 wcode_X7_checked rfl (by decide +kernel) ⟨(Nat.le_of_ble_eq_true rfl), (Nat.le_of_ble_eq_true rfl)⟩) rfl (zrecv B (zat (by decide) (z111 _ _ _)) cl7) zid rfl (Nat.le_of_ble_eq_true rfl) dX7_quietShare_13 ⟨(Nat.le_of_ble_eq_true rfl), (Nat.le_of_ble_eq_true rfl)⟩ (fun v9 u9 hv9 => ?_)
    obtain ⟨rfl, hF2002, hg2002⟩ := hv9
    refine zv_st (st' := [.int ((m_X7_checked c 0).1)]) rfl ?_
    refine zv_if_le (pc := 16) (tgt := 23) B dX7_quietShare_16 rfl (fun h9 => absurd h9 (ck1 _)) (fun _ => ?_)
    refine zv_fconst0 (pc := 19) B dX7_quietShare_19 ?_
    refine zv_goto (pc := 20) (tgt := 34) B rfl dX7_quietShare_20 ?_
    have hE4 : (FP.fconst0, (m_X7_checked c 0).2) = m_X7_quietShare c := (by unfold m_X7_quietShare; rw [if_pos h1])
    exact zv_fret (pc := 34) B (FP.fconst0) hr (fun H hP => ⟨(), ⟨(by rw [(zp2 hE4).1]), (by rw [(zp2 hE4).2]; exact (zfr.call2 zfr.refl hF2002 (by omega))), (by rw [(zp2 hE4).2]; exact hg2002)⟩, (by rw [(zp2 hE4).2]; exact hP)⟩) (Nat.le_of_ble_eq_true rfl) (Nat.le_of_ble_eq_true rfl) dX7_quietShare_34
  · have hne : ¬ c 111 22 = 0 := zpos_ne h1
    refine zv_iconst (pc := 8) (v := 1) B rfl dX7_quietShare_8 ?_
    refine zv_goto (pc := 9) (tgt := 13) B rfl dX7_quietShare_9 ?_
    refine zv_callV (pc := 13) (As := [.int 1]) (rest := []) B (k_X7_checked l E b _ _ _ _  1 hg) (zcwV 1 0 B wm_X7_121 wi_X7_checked wv_X7_checked wn_X7 wcode_X7_checked rfl (by decide +kernel) ⟨(Nat.le_of_ble_eq_true rfl), (Nat.le_of_ble_eq_true rfl)⟩) rfl (zrecv B (zat (by decide) (z111 _ _ _)) cl7) zid rfl (Nat.le_of_ble_eq_true rfl) dX7_quietShare_13 ⟨(Nat.le_of_ble_eq_true rfl), (Nat.le_of_ble_eq_true rfl)⟩ (fun v9 u9 hv9 => ?_)
    obtain ⟨rfl, hF2005, hg2005⟩ := hv9
    refine zv_st (st' := [.int ((m_X7_checked c 1).1)]) rfl ?_
    refine zv_if_le (pc := 16) (tgt := 23) B dX7_quietShare_16 rfl (fun _ => ?_) (fun h9 => absurd (ck0 _) h9)
    refine zv_aload_n (pc := 23) B 0 rfl dX7_quietShare_23 ?_
    refine zv_get (pc := 24) (v := .int (((m_X7_checked c 1).2) 111 24)) B (zat (by decide) (z111 _ _ _)) cl7 inX7 24 (by decide) wf_X7_84 rfl dX7_quietShare_24 ?_
    refine zv_topi (y := c 111 24) (ck_f _ _ (by decide)) ?_
    refine zv_i2f (pc := 27) B dX7_quietShare_27 ?_
    refine zv_aload_n (pc := 28) B 0 rfl dX7_quietShare_28 ?_
    refine zv_get (pc := 29) (v := .int (((m_X7_checked c 1).2) 111 22)) B (zat (by decide) (z111 _ _ _)) cl7 inX7 22 (by decide) wf_X7_78 rfl dX7_quietShare_29 ?_
    refine zv_topi (y := c 111 22) (ck_f _ _ (by decide)) ?_
    refine zv_i2f (pc := 32) B dX7_quietShare_32 ?_
    refine zv_fdiv (pc := 33) B (zfp_ff _ hne) dX7_quietShare_33 ?_
    have hE7 : (FP.fdiv (FP.i2f (c 111 24)) (FP.i2f (c 111 22)), (m_X7_checked c 1).2) = m_X7_quietShare c := (by unfold m_X7_quietShare; rw [if_neg h1])
    exact zv_fret (pc := 34) B (FP.fdiv (FP.i2f (c 111 24)) (FP.i2f (c 111 22))) hr (fun H hP => ⟨(), ⟨(by rw [(zp2 hE7).1]), (by rw [(zp2 hE7).2]; exact (zfr.call2 zfr.refl hF2005 (by omega))), (by rw [(zp2 hE7).2]; exact hg2005)⟩, (by rw [(zp2 hE7).2]; exact hP)⟩) (Nat.le_of_ble_eq_true rfl) (Nat.le_of_ble_eq_true rfl) dX7_quietShare_34
