def m_X7_levelOf (c : Nat → Nat → Int32) (x : Int32) : Int32 × (Nat → Nat → Int32) := if ((m_X7_checked c (r_X7_isVoice x)).1) ≤ 0 then ((m_X7_levelAt ((m_X7_checked c (r_X7_isVoice x)).2) (zn x)), (m_X7_checked c (r_X7_isVoice x)).2) else (0, (m_X7_checked c (r_X7_isVoice x)).2)
set_option maxRecDepth 100000 in
set_option maxHeartbeats 400000 in
theorem k_X7_levelOf (l : Launch) (E : zE) (b : Nat) (c : Nat → Nat → Int32) (w : Nat → Int64) (en : Nat → Nat) (ea : Nat → Nat → Int32) (x : Int32) {T : Nat} (hT : T < 2 ^ 30) (hL : zLv T (c 112)) (hg : zG c) : zM l yX7_levelOf (.code yX7_levelOf cX7_levelOf 2 (some .int) :: zAll) (zRm 4 0 0) E b [.ref (b + 111), .int x] (zH E b c w en ea) (fun v9 (_ : Unit) => v9 = some (.int (m_X7_levelOf c x).1) ∧ zfr 111 112 111 111 c (m_X7_levelOf c x).2 ∧ zG (m_X7_levelOf c x).2) (fun _ => zH E b ((m_X7_levelOf c x).2) w en ea) 0 0 := by
  refine zM_of "ToneGraphModel" (by decide) rfl rfl (Nat.le_of_ble_eq_true rfl) (L0 := [(0, .ref (b + 111)), (1, .int x)]) rfl ?_
  intro p e s m args below meth c9 B hr hname
  refine zv_aload_n (pc := 0) B 0 rfl dX7_levelOf_0 ?_
  refine zv_iload_n (pc := 1) B 1 rfl dX7_levelOf_1 ?_
  refine zv_callS (pc := 2) (As := [.int x]) (rest := [.ref (b + 111)]) B (k_X7_isVoice l E b x) (zcwS 1 1 B wm_X7_159 ws_X7_isVoice wn_X7 wcode_X7_isVoice (by decide +kernel) ⟨(Nat.le_of_ble_eq_true rfl), (Nat.le_of_ble_eq_true rfl)⟩) rfl zid rfl (Nat.le_of_ble_eq_true rfl) dX7_levelOf_2 ⟨(Nat.le_of_ble_eq_true rfl), (Nat.le_of_ble_eq_true rfl)⟩ (fun v9 u9 hv9 => ?_)
  subst hv9
  refine zv_st (st' := [.int (r_X7_isVoice x), .ref (b + 111)]) rfl ?_
  refine zv_callV (pc := 5) (As := [.int (r_X7_isVoice x)]) (rest := []) B (k_X7_checked l E b _ _ _ _  (r_X7_isVoice x) hg) (zcwV 1 0 B wm_X7_121 wi_X7_checked wv_X7_checked wn_X7 wcode_X7_checked rfl (by decide +kernel) ⟨(Nat.le_of_ble_eq_true rfl), (Nat.le_of_ble_eq_true rfl)⟩) rfl (zrecv B (zat (by decide) (z111 _ _ _)) cl7) zid rfl (Nat.le_of_ble_eq_true rfl) dX7_levelOf_5 ⟨(Nat.le_of_ble_eq_true rfl), (Nat.le_of_ble_eq_true rfl)⟩ (fun v9 u9 hv9 => ?_)
  obtain ⟨rfl, hF2001, hg2001⟩ := hv9
  refine zv_st (st' := [.int ((m_X7_checked c (r_X7_isVoice x)).1)]) rfl ?_
  refine zv_if_le (pc := 8) (tgt := 15) B dX7_levelOf_8 rfl (fun h2 => ?_) (fun h2 => ?_)
  · have hbx : zn x < 4 := vo_ok (ck_le h2)
    refine zv_aload_n (pc := 15) B 0 rfl dX7_levelOf_15 ?_
    refine zv_iload_n (pc := 16) B 1 rfl dX7_levelOf_16 ?_
    refine zv_st (st' := [.int (nI (zn x)), .ref (b + 111)]) (by rw [← zn_eq x]) ?_
    refine zv_callV (pc := 17) (As := [.int (nI (zn x))]) (rest := []) B (k_X7_levelAt l E b _ _ _ _  hbx (zLv.z1 (by rw [hF2001 112 (by omega)]; exact hL) hT hbx) (zLv.z2 (by rw [hF2001 112 (by omega)]; exact hL) hT hbx) (zLv.z3 (by rw [hF2001 112 (by omega)]; exact hL) hT hbx)) (zcwV 1 3 B wm_X7_149 wi_X7_levelAt wv_X7_levelAt wn_X7 wcode_X7_levelAt rfl (by decide +kernel) ⟨(Nat.le_of_ble_eq_true rfl), (Nat.le_of_ble_eq_true rfl)⟩) rfl (zrecv B (zat (by decide) (z111 _ _ _)) cl7) zid rfl (Nat.le_of_ble_eq_true rfl) dX7_levelOf_17 ⟨(Nat.le_of_ble_eq_true rfl), (Nat.le_of_ble_eq_true rfl)⟩ (fun v9 u9 hv9 => ?_)
    subst hv9
    refine zv_st (st' := [.int (m_X7_levelAt ((m_X7_checked c (r_X7_isVoice x)).2) (zn x))]) rfl ?_
    have hE3 : ((m_X7_levelAt ((m_X7_checked c (r_X7_isVoice x)).2) (zn x)), (m_X7_checked c (r_X7_isVoice x)).2) = m_X7_levelOf c x := (by unfold m_X7_levelOf; rw [if_pos h2])
    exact zv_iret (pc := 20) B ((m_X7_levelAt ((m_X7_checked c (r_X7_isVoice x)).2) (zn x))) hr (fun H hP => ⟨(), ⟨(by rw [(zp2 hE3).1]), (by rw [(zp2 hE3).2]; exact (zfr.call zfr.refl hF2001 (by omega))), (by rw [(zp2 hE3).2]; exact hg2001)⟩, (by rw [(zp2 hE3).2]; exact hP)⟩) (Nat.le_of_ble_eq_true rfl) (Nat.le_of_ble_eq_true rfl) dX7_levelOf_20
  · refine zv_iconst (pc := 11) (v := 0) B rfl dX7_levelOf_11 ?_
    refine zv_goto (pc := 12) (tgt := 20) B rfl dX7_levelOf_12 ?_
    have hE4 : (0, (m_X7_checked c (r_X7_isVoice x)).2) = m_X7_levelOf c x := (by unfold m_X7_levelOf; rw [if_neg h2])
    exact zv_iret (pc := 20) B (0) hr (fun H hP => ⟨(), ⟨(by rw [(zp2 hE4).1]), (by rw [(zp2 hE4).2]; exact (zfr.call zfr.refl hF2001 (by omega))), (by rw [(zp2 hE4).2]; exact hg2001)⟩, (by rw [(zp2 hE4).2]; exact hP)⟩) (Nat.le_of_ble_eq_true rfl) (Nat.le_of_ble_eq_true rfl) dX7_levelOf_20

def m_X7_sings (c : Nat → Nat → Int32) (v : Nat) : Int32 × (Nat → Nat → Int32) := if (m_X7_plays c v) = 0 then (0, c) else (if (m_X7_isReleased (m_X7_lay c v 9 (((m_X7_at c v 9) + (r_X7_stepOf (m_X7_at c v 2))) - ((m_X7_at c v 9) + (r_X7_stepOf (m_X7_at c v 2))) / 65536 * 65536)) v) = 0 then (((((r_X7_valueOf (m_X7_at c v 4) (m_X7_at c v 9)) * (m_X7_levelAt c v)) / 1000) * (m_X7_at c v 3)) / 100, (m_X7_lay (m_X7_lay c v 9 (((m_X7_at c v 9) + (r_X7_stepOf (m_X7_at c v 2))) - ((m_X7_at c v 9) + (r_X7_stepOf (m_X7_at c v 2))) / 65536 * 65536)) v 10 ((m_X7_at (m_X7_lay c v 9 (((m_X7_at c v 9) + (r_X7_stepOf (m_X7_at c v 2))) - ((m_X7_at c v 9) + (r_X7_stepOf (m_X7_at c v 2))) / 65536 * 65536)) v 10) + 1))) else (if (m_X7_at (m_X7_lay (m_X7_lay c v 9 (((m_X7_at c v 9) + (r_X7_stepOf (m_X7_at c v 2))) - ((m_X7_at c v 9) + (r_X7_stepOf (m_X7_at c v 2))) / 65536 * 65536)) v 12 ((m_X7_at (m_X7_lay c v 9 (((m_X7_at c v 9) + (r_X7_stepOf (m_X7_at c v 2))) - ((m_X7_at c v 9) + (r_X7_stepOf (m_X7_at c v 2))) / 65536 * 65536)) v 12) + 1)) v 12) = (m_X7_at (m_X7_lay (m_X7_lay c v 9 (((m_X7_at c v 9) + (r_X7_stepOf (m_X7_at c v 2))) - ((m_X7_at c v 9) + (r_X7_stepOf (m_X7_at c v 2))) / 65536 * 65536)) v 12 ((m_X7_at (m_X7_lay c v 9 (((m_X7_at c v 9) + (r_X7_stepOf (m_X7_at c v 2))) - ((m_X7_at c v 9) + (r_X7_stepOf (m_X7_at c v 2))) / 65536 * 65536)) v 12) + 1)) v 8) then (((((r_X7_valueOf (m_X7_at c v 4) (m_X7_at c v 9)) * (m_X7_levelAt c v)) / 1000) * (m_X7_at c v 3)) / 100, (m_X7_lay (m_X7_lay (m_X7_lay c v 9 (((m_X7_at c v 9) + (r_X7_stepOf (m_X7_at c v 2))) - ((m_X7_at c v 9) + (r_X7_stepOf (m_X7_at c v 2))) / 65536 * 65536)) v 12 ((m_X7_at (m_X7_lay c v 9 (((m_X7_at c v 9) + (r_X7_stepOf (m_X7_at c v 2))) - ((m_X7_at c v 9) + (r_X7_stepOf (m_X7_at c v 2))) / 65536 * 65536)) v 12) + 1)) v 0 0)) else (((((r_X7_valueOf (m_X7_at c v 4) (m_X7_at c v 9)) * (m_X7_levelAt c v)) / 1000) * (m_X7_at c v 3)) / 100, (m_X7_lay (m_X7_lay c v 9 (((m_X7_at c v 9) + (r_X7_stepOf (m_X7_at c v 2))) - ((m_X7_at c v 9) + (r_X7_stepOf (m_X7_at c v 2))) / 65536 * 65536)) v 12 ((m_X7_at (m_X7_lay c v 9 (((m_X7_at c v 9) + (r_X7_stepOf (m_X7_at c v 2))) - ((m_X7_at c v 9) + (r_X7_stepOf (m_X7_at c v 2))) / 65536 * 65536)) v 12) + 1)))))
set_option maxRecDepth 100000 in
set_option maxHeartbeats 400000 in
theorem k_X7_sings (l : Launch) (E : zE) (b : Nat) (c : Nat → Nat → Int32) (w : Nat → Int64) (en : Nat → Nat) (ea : Nat → Nat → Int32) {v : Nat} (hv : v < 4) {T : Nat} (hT : T < 2 ^ 30) (hL : zLv T (c 112)) (hg : zG c) : zM l yX7_sings (.code yX7_sings cX7_sings 3 (some .int) :: zAll) (zRm 4 0 0) E b [.ref (b + 111), .int (nI v)] (zH E b c w en ea) (fun v9 (_ : Unit) => v9 = some (.int (m_X7_sings c v).1) ∧ zfr 112 113 112 112 c (m_X7_sings c v).2 ∧ zG (m_X7_sings c v).2) (fun _ => zH E b ((m_X7_sings c v).2) w en ea) 0 0 := by
  refine zM_of "ToneGraphModel" (by decide) rfl rfl (Nat.le_of_ble_eq_true rfl) (L0 := [(0, .ref (b + 111)), (1, .int (nI v))]) rfl ?_
  intro p e s m args below meth c9 B hr hname
  refine zv_aload_n (pc := 0) B 0 rfl dX7_sings_0 ?_
  refine zv_iload_n (pc := 1) B 1 rfl dX7_sings_1 ?_
  refine zv_callV (pc := 2) (As := [.int (nI v)]) (rest := []) B (k_X7_plays l E b _ _ _ _  hv) (zcwV 1 1 B wm_X7_135 wi_X7_plays wv_X7_plays wn_X7 wcode_X7_plays rfl (by decide +kernel) ⟨(Nat.le_of_ble_eq_true rfl), (Nat.le_of_ble_eq_true rfl)⟩) rfl (zrecv B (zat (by decide) (z111 _ _ _)) cl7) zid rfl (Nat.le_of_ble_eq_true rfl) dX7_sings_2 ⟨(Nat.le_of_ble_eq_true rfl), (Nat.le_of_ble_eq_true rfl)⟩ (fun v9 u9 hv9 => ?_)
  subst hv9
  refine zv_st (st' := [.int (m_X7_plays c v)]) rfl ?_
  refine zv_if_ne (pc := 5) (tgt := 10) B dX7_sings_5 rfl (fun h1 => ?_) (fun h1 => ?_)
  · refine zv_aload_n (pc := 10) B 0 rfl dX7_sings_10 ?_
    refine zv_iload_n (pc := 11) B 1 rfl dX7_sings_11 ?_
    refine zv_iconst (pc := 12) (v := 4) B rfl dX7_sings_12 ?_
    refine zv_st (st' := [.int (nI 4), .int (nI v), .ref (b + 111)]) rfl ?_
    refine zv_callV (pc := 13) (As := [.int (nI v), .int (nI 4)]) (rest := []) B (k_X7_at (k := 4) l E b _ _ _ _  hv (by decide)) (zcwV 2 0 B wm_X7_132 wi_X7_at wv_X7_at wn_X7 wcode_X7_at rfl (by decide +kernel) ⟨(Nat.le_of_ble_eq_true rfl), (Nat.le_of_ble_eq_true rfl)⟩) rfl (zrecv B (zat (by decide) (z111 _ _ _)) cl7) zid rfl (Nat.le_of_ble_eq_true rfl) dX7_sings_13 ⟨(Nat.le_of_ble_eq_true rfl), (Nat.le_of_ble_eq_true rfl)⟩ (fun v9 u9 hv9 => ?_)
    subst hv9
    refine zv_st (st' := [.int (m_X7_at c v 4)]) rfl ?_
    refine zv_aload_n (pc := 16) B 0 rfl dX7_sings_16 ?_
    refine zv_iload_n (pc := 17) B 1 rfl dX7_sings_17 ?_
    refine zv_bipush (pc := 18) (v := 9) B rfl dX7_sings_18 ?_
    refine zv_st (st' := [.int (nI 9), .int (nI v), .ref (b + 111), .int (m_X7_at c v 4)]) rfl ?_
    refine zv_callV (pc := 20) (As := [.int (nI v), .int (nI 9)]) (rest := [.int (m_X7_at c v 4)]) B (k_X7_at (k := 9) l E b _ _ _ _  hv (by decide)) (zcwV 2 0 B wm_X7_132 wi_X7_at wv_X7_at wn_X7 wcode_X7_at rfl (by decide +kernel) ⟨(Nat.le_of_ble_eq_true rfl), (Nat.le_of_ble_eq_true rfl)⟩) rfl (zrecv B (zat (by decide) (z111 _ _ _)) cl7) zid rfl (Nat.le_of_ble_eq_true rfl) dX7_sings_20 ⟨(Nat.le_of_ble_eq_true rfl), (Nat.le_of_ble_eq_true rfl)⟩ (fun v9 u9 hv9 => ?_)
    subst hv9
    refine zv_st (st' := [.int (m_X7_at c v 9), .int (m_X7_at c v 4)]) rfl ?_
    refine zv_callS (pc := 23) (As := [.int (m_X7_at c v 4), .int (m_X7_at c v 9)]) (rest := []) B (k_X7_valueOf l E b (m_X7_at c v 4) (m_X7_at c v 9)) (zcwS 2 0 B wm_X7_170 ws_X7_valueOf wn_X7 wcode_X7_valueOf (by decide +kernel) ⟨(Nat.le_of_ble_eq_true rfl), (Nat.le_of_ble_eq_true rfl)⟩) rfl zid rfl (Nat.le_of_ble_eq_true rfl) dX7_sings_23 ⟨(Nat.le_of_ble_eq_true rfl), (Nat.le_of_ble_eq_true rfl)⟩ (fun v9 u9 hv9 => ?_)
    subst hv9
    refine zv_st (st' := [.int (r_X7_valueOf (m_X7_at c v 4) (m_X7_at c v 9))]) rfl ?_
    refine zv_aload_n (pc := 26) B 0 rfl dX7_sings_26 ?_
    refine zv_iload_n (pc := 27) B 1 rfl dX7_sings_27 ?_
    refine zv_callV (pc := 28) (As := [.int (nI v)]) (rest := [.int (r_X7_valueOf (m_X7_at c v 4) (m_X7_at c v 9))]) B (k_X7_levelAt l E b _ _ _ _  hv (zLv.z1 hL hT hv) (zLv.z2 hL hT hv) (zLv.z3 hL hT hv)) (zcwV 1 3 B wm_X7_149 wi_X7_levelAt wv_X7_levelAt wn_X7 wcode_X7_levelAt rfl (by decide +kernel) ⟨(Nat.le_of_ble_eq_true rfl), (Nat.le_of_ble_eq_true rfl)⟩) rfl (zrecv B (zat (by decide) (z111 _ _ _)) cl7) zid rfl (Nat.le_of_ble_eq_true rfl) dX7_sings_28 ⟨(Nat.le_of_ble_eq_true rfl), (Nat.le_of_ble_eq_true rfl)⟩ (fun v9 u9 hv9 => ?_)
    subst hv9
    refine zv_st (st' := [.int (m_X7_levelAt c v), .int (r_X7_valueOf (m_X7_at c v 4) (m_X7_at c v 9))]) rfl ?_
    refine zv_imul (pc := 31) B dX7_sings_31 ?_
    refine zv_sipush (pc := 32) (v := 1000) B rfl dX7_sings_32 ?_
    refine zv_idiv (pc := 35) B (by decide) dX7_sings_35 ?_
    refine zv_aload_n (pc := 36) B 0 rfl dX7_sings_36 ?_
    refine zv_iload_n (pc := 37) B 1 rfl dX7_sings_37 ?_
    refine zv_iconst (pc := 38) (v := 3) B rfl dX7_sings_38 ?_
    refine zv_st (st' := [.int (nI 3), .int (nI v), .ref (b + 111), .int (((r_X7_valueOf (m_X7_at c v 4) (m_X7_at c v 9)) * (m_X7_levelAt c v)) / 1000)]) rfl ?_
    refine zv_callV (pc := 39) (As := [.int (nI v), .int (nI 3)]) (rest := [.int (((r_X7_valueOf (m_X7_at c v 4) (m_X7_at c v 9)) * (m_X7_levelAt c v)) / 1000)]) B (k_X7_at (k := 3) l E b _ _ _ _  hv (by decide)) (zcwV 2 0 B wm_X7_132 wi_X7_at wv_X7_at wn_X7 wcode_X7_at rfl (by decide +kernel) ⟨(Nat.le_of_ble_eq_true rfl), (Nat.le_of_ble_eq_true rfl)⟩) rfl (zrecv B (zat (by decide) (z111 _ _ _)) cl7) zid rfl (Nat.le_of_ble_eq_true rfl) dX7_sings_39 ⟨(Nat.le_of_ble_eq_true rfl), (Nat.le_of_ble_eq_true rfl)⟩ (fun v9 u9 hv9 => ?_)
    subst hv9
    refine zv_st (st' := [.int (m_X7_at c v 3), .int (((r_X7_valueOf (m_X7_at c v 4) (m_X7_at c v 9)) * (m_X7_levelAt c v)) / 1000)]) rfl ?_
    refine zv_imul (pc := 42) B dX7_sings_42 ?_
    refine zv_bipush (pc := 43) (v := 100) B rfl dX7_sings_43 ?_
    refine zv_idiv (pc := 45) B (by decide) dX7_sings_45 ?_
    refine zv_istore_n (pc := 46) (L' := [(2, .int (((((r_X7_valueOf (m_X7_at c v 4) (m_X7_at c v 9)) * (m_X7_levelAt c v)) / 1000) * (m_X7_at c v 3)) / 100)), (0, .ref (b + 111)), (1, .int (nI v))]) B (by decide) rfl dX7_sings_46 ?_
    refine zv_aload_n (pc := 47) B 1 rfl dX7_sings_47 ?_
    refine zv_iload_n (pc := 48) B 2 rfl dX7_sings_48 ?_
    refine zv_bipush (pc := 49) (v := 9) B rfl dX7_sings_49 ?_
    refine zv_aload_n (pc := 51) B 1 rfl dX7_sings_51 ?_
    refine zv_iload_n (pc := 52) B 2 rfl dX7_sings_52 ?_
    refine zv_bipush (pc := 53) (v := 9) B rfl dX7_sings_53 ?_
    refine zv_st (st' := [.int (nI 9), .int (nI v), .ref (b + 111), .int 9, .int (nI v), .ref (b + 111)]) rfl ?_
    refine zv_callV (pc := 55) (As := [.int (nI v), .int (nI 9)]) (rest := [.int 9, .int (nI v), .ref (b + 111)]) B (k_X7_at (k := 9) l E b _ _ _ _  hv (by decide)) (zcwV 2 0 B wm_X7_132 wi_X7_at wv_X7_at wn_X7 wcode_X7_at rfl (by decide +kernel) ⟨(Nat.le_of_ble_eq_true rfl), (Nat.le_of_ble_eq_true rfl)⟩) rfl (zrecv B (zat (by decide) (z111 _ _ _)) cl7) zid rfl (Nat.le_of_ble_eq_true rfl) dX7_sings_55 ⟨(Nat.le_of_ble_eq_true rfl), (Nat.le_of_ble_eq_true rfl)⟩ (fun v9 u9 hv9 => ?_)
    subst hv9
    refine zv_st (st' := [.int (m_X7_at c v 9), .int 9, .int (nI v), .ref (b + 111)]) rfl ?_
    refine zv_aload_n (pc := 58) B 1 rfl dX7_sings_58 ?_
    refine zv_iload_n (pc := 59) B 2 rfl dX7_sings_59 ?_
    refine zv_iconst (pc := 60) (v := 2) B rfl dX7_sings_60 ?_
    refine zv_st (st' := [.int (nI 2), .int (nI v), .ref (b + 111), .int (m_X7_at c v 9), .int 9, .int (nI v), .ref (b + 111)]) rfl ?_
    refine zv_callV (pc := 61) (As := [.int (nI v), .int (nI 2)]) (rest := [.int (m_X7_at c v 9), .int 9, .int (nI v), .ref (b + 111)]) B (k_X7_at (k := 2) l E b _ _ _ _  hv (by decide)) (zcwV 2 0 B wm_X7_132 wi_X7_at wv_X7_at wn_X7 wcode_X7_at rfl (by decide +kernel) ⟨(Nat.le_of_ble_eq_true rfl), (Nat.le_of_ble_eq_true rfl)⟩) rfl (zrecv B (zat (by decide) (z111 _ _ _)) cl7) zid rfl (Nat.le_of_ble_eq_true rfl) dX7_sings_61 ⟨(Nat.le_of_ble_eq_true rfl), (Nat.le_of_ble_eq_true rfl)⟩ (fun v9 u9 hv9 => ?_)
    subst hv9
    refine zv_st (st' := [.int (m_X7_at c v 2), .int (m_X7_at c v 9), .int 9, .int (nI v), .ref (b + 111)]) rfl ?_
    refine zv_callS (pc := 64) (As := [.int (m_X7_at c v 2)]) (rest := [.int (m_X7_at c v 9), .int 9, .int (nI v), .ref (b + 111)]) B (k_X7_stepOf l E b (m_X7_at c v 2)) (zcwS 1 1 B wm_X7_173 ws_X7_stepOf wn_X7 wcode_X7_stepOf (by decide +kernel) ⟨(Nat.le_of_ble_eq_true rfl), (Nat.le_of_ble_eq_true rfl)⟩) rfl zid rfl (Nat.le_of_ble_eq_true rfl) dX7_sings_64 ⟨(Nat.le_of_ble_eq_true rfl), (Nat.le_of_ble_eq_true rfl)⟩ (fun v9 u9 hv9 => ?_)
    subst hv9
    refine zv_st (st' := [.int (r_X7_stepOf (m_X7_at c v 2)), .int (m_X7_at c v 9), .int 9, .int (nI v), .ref (b + 111)]) rfl ?_
    refine zv_iadd (pc := 67) B dX7_sings_67 ?_
    refine zv_ldc (pc := 68) (v := 65536) B (B.at wk_X7_176) dX7_sings_68 ?_
    refine zv_irem (pc := 70) B (by decide) dX7_sings_70 ?_
    refine zv_st (st' := [.int (((m_X7_at c v 9) + (r_X7_stepOf (m_X7_at c v 2))) - ((m_X7_at c v 9) + (r_X7_stepOf (m_X7_at c v 2))) / 65536 * 65536), .int (nI 9), .int (nI v), .ref (b + 111)]) rfl ?_
    refine zv_callV (pc := 71) (As := [.int (nI v), .int (nI 9), .int (((m_X7_at c v 9) + (r_X7_stepOf (m_X7_at c v 2))) - ((m_X7_at c v 9) + (r_X7_stepOf (m_X7_at c v 2))) / 65536 * 65536)]) (rest := []) B (k_X7_lay (k := 9) l E b _ _ _ _  hv (by decide) (((m_X7_at c v 9) + (r_X7_stepOf (m_X7_at c v 2))) - ((m_X7_at c v 9) + (r_X7_stepOf (m_X7_at c v 2))) / 65536 * 65536) hg) (zcwV 3 0 B wm_X7_145 wi_X7_lay wv_X7_lay wn_X7 wcode_X7_lay rfl (by decide +kernel) ⟨(Nat.le_of_ble_eq_true rfl), (Nat.le_of_ble_eq_true rfl)⟩) rfl (zrecv B (zat (by decide) (z111 _ _ _)) cl7) zid rfl (Nat.le_of_ble_eq_true rfl) dX7_sings_71 ⟨(Nat.le_of_ble_eq_true rfl), (Nat.le_of_ble_eq_true rfl)⟩ (fun v9 u9 hv9 => ?_)
    obtain ⟨rfl, hF2002, hg2002⟩ := hv9
    refine zv_st (st' := []) rfl ?_
    refine zv_aload_n (pc := 74) B 1 rfl dX7_sings_74 ?_
    refine zv_iload_n (pc := 75) B 2 rfl dX7_sings_75 ?_
    refine zv_callV (pc := 76) (As := [.int (nI v)]) (rest := []) B (k_X7_isReleased l E b _ _ _ _  hv) (zcwV 1 2 B wm_X7_138 wi_X7_isReleased wv_X7_isReleased wn_X7 wcode_X7_isReleased rfl (by decide +kernel) ⟨(Nat.le_of_ble_eq_true rfl), (Nat.le_of_ble_eq_true rfl)⟩) rfl (zrecv B (zat (by decide) (z111 _ _ _)) cl7) zid rfl (Nat.le_of_ble_eq_true rfl) dX7_sings_76 ⟨(Nat.le_of_ble_eq_true rfl), (Nat.le_of_ble_eq_true rfl)⟩ (fun v9 u9 hv9 => ?_)
    subst hv9
    refine zv_st (st' := [.int (m_X7_isReleased (m_X7_lay c v 9 (((m_X7_at c v 9) + (r_X7_stepOf (m_X7_at c v 2))) - ((m_X7_at c v 9) + (r_X7_stepOf (m_X7_at c v 2))) / 65536 * 65536)) v)]) rfl ?_
    refine zv_if_eq (pc := 79) (tgt := 125) B dX7_sings_79 rfl (fun h3 => ?_) (fun h3 => ?_)
    · refine zv_aload_n (pc := 125) B 1 rfl dX7_sings_125 ?_
      refine zv_iload_n (pc := 126) B 2 rfl dX7_sings_126 ?_
      refine zv_bipush (pc := 127) (v := 10) B rfl dX7_sings_127 ?_
      refine zv_aload_n (pc := 129) B 1 rfl dX7_sings_129 ?_
      refine zv_iload_n (pc := 130) B 2 rfl dX7_sings_130 ?_
      refine zv_bipush (pc := 131) (v := 10) B rfl dX7_sings_131 ?_
      refine zv_st (st' := [.int (nI 10), .int (nI v), .ref (b + 111), .int 10, .int (nI v), .ref (b + 111)]) rfl ?_
      refine zv_callV (pc := 133) (As := [.int (nI v), .int (nI 10)]) (rest := [.int 10, .int (nI v), .ref (b + 111)]) B (k_X7_at (k := 10) l E b _ _ _ _  hv (by decide)) (zcwV 2 0 B wm_X7_132 wi_X7_at wv_X7_at wn_X7 wcode_X7_at rfl (by decide +kernel) ⟨(Nat.le_of_ble_eq_true rfl), (Nat.le_of_ble_eq_true rfl)⟩) rfl (zrecv B (zat (by decide) (z111 _ _ _)) cl7) zid rfl (Nat.le_of_ble_eq_true rfl) dX7_sings_133 ⟨(Nat.le_of_ble_eq_true rfl), (Nat.le_of_ble_eq_true rfl)⟩ (fun v9 u9 hv9 => ?_)
      subst hv9
      refine zv_st (st' := [.int (m_X7_at (m_X7_lay c v 9 (((m_X7_at c v 9) + (r_X7_stepOf (m_X7_at c v 2))) - ((m_X7_at c v 9) + (r_X7_stepOf (m_X7_at c v 2))) / 65536 * 65536)) v 10), .int 10, .int (nI v), .ref (b + 111)]) rfl ?_
      refine zv_iconst (pc := 136) (v := 1) B rfl dX7_sings_136 ?_
      refine zv_iadd (pc := 137) B dX7_sings_137 ?_
      refine zv_st (st' := [.int ((m_X7_at (m_X7_lay c v 9 (((m_X7_at c v 9) + (r_X7_stepOf (m_X7_at c v 2))) - ((m_X7_at c v 9) + (r_X7_stepOf (m_X7_at c v 2))) / 65536 * 65536)) v 10) + 1), .int (nI 10), .int (nI v), .ref (b + 111)]) rfl ?_
      refine zv_callV (pc := 138) (As := [.int (nI v), .int (nI 10), .int ((m_X7_at (m_X7_lay c v 9 (((m_X7_at c v 9) + (r_X7_stepOf (m_X7_at c v 2))) - ((m_X7_at c v 9) + (r_X7_stepOf (m_X7_at c v 2))) / 65536 * 65536)) v 10) + 1)]) (rest := []) B (k_X7_lay (k := 10) l E b _ _ _ _  hv (by decide) ((m_X7_at (m_X7_lay c v 9 (((m_X7_at c v 9) + (r_X7_stepOf (m_X7_at c v 2))) - ((m_X7_at c v 9) + (r_X7_stepOf (m_X7_at c v 2))) / 65536 * 65536)) v 10) + 1) hg2002) (zcwV 3 0 B wm_X7_145 wi_X7_lay wv_X7_lay wn_X7 wcode_X7_lay rfl (by decide +kernel) ⟨(Nat.le_of_ble_eq_true rfl), (Nat.le_of_ble_eq_true rfl)⟩) rfl (zrecv B (zat (by decide) (z111 _ _ _)) cl7) zid rfl (Nat.le_of_ble_eq_true rfl) dX7_sings_138 ⟨(Nat.le_of_ble_eq_true rfl), (Nat.le_of_ble_eq_true rfl)⟩ (fun v9 u9 hv9 => ?_)
      obtain ⟨rfl, hF2004, hg2004⟩ := hv9
      refine zv_st (st' := []) rfl ?_
      refine zv_iload_n (pc := 141) B 0 rfl dX7_sings_141 ?_
      have hE5 : (((((r_X7_valueOf (m_X7_at c v 4) (m_X7_at c v 9)) * (m_X7_levelAt c v)) / 1000) * (m_X7_at c v 3)) / 100, (m_X7_lay (m_X7_lay c v 9 (((m_X7_at c v 9) + (r_X7_stepOf (m_X7_at c v 2))) - ((m_X7_at c v 9) + (r_X7_stepOf (m_X7_at c v 2))) / 65536 * 65536)) v 10 ((m_X7_at (m_X7_lay c v 9 (((m_X7_at c v 9) + (r_X7_stepOf (m_X7_at c v 2))) - ((m_X7_at c v 9) + (r_X7_stepOf (m_X7_at c v 2))) / 65536 * 65536)) v 10) + 1))) = m_X7_sings c v := (by unfold m_X7_sings; rw [if_neg h1, if_pos h3])
      exact zv_iret (pc := 142) B (((((r_X7_valueOf (m_X7_at c v 4) (m_X7_at c v 9)) * (m_X7_levelAt c v)) / 1000) * (m_X7_at c v 3)) / 100) hr (fun H hP => ⟨(), ⟨(by rw [(zp2 hE5).1]), (by rw [(zp2 hE5).2]; exact (zfr.call (zfr.call zfr.refl hF2002 (by omega)) hF2004 (by omega))), (by rw [(zp2 hE5).2]; exact hg2004)⟩, (by rw [(zp2 hE5).2]; exact hP)⟩) (Nat.le_of_ble_eq_true rfl) (Nat.le_of_ble_eq_true rfl) dX7_sings_142
    · refine zv_aload_n (pc := 82) B 1 rfl dX7_sings_82 ?_
      refine zv_iload_n (pc := 83) B 2 rfl dX7_sings_83 ?_
      refine zv_bipush (pc := 84) (v := 12) B rfl dX7_sings_84 ?_
      refine zv_aload_n (pc := 86) B 1 rfl dX7_sings_86 ?_
      refine zv_iload_n (pc := 87) B 2 rfl dX7_sings_87 ?_
      refine zv_bipush (pc := 88) (v := 12) B rfl dX7_sings_88 ?_
      refine zv_st (st' := [.int (nI 12), .int (nI v), .ref (b + 111), .int 12, .int (nI v), .ref (b + 111)]) rfl ?_
      refine zv_callV (pc := 90) (As := [.int (nI v), .int (nI 12)]) (rest := [.int 12, .int (nI v), .ref (b + 111)]) B (k_X7_at (k := 12) l E b _ _ _ _  hv (by decide)) (zcwV 2 0 B wm_X7_132 wi_X7_at wv_X7_at wn_X7 wcode_X7_at rfl (by decide +kernel) ⟨(Nat.le_of_ble_eq_true rfl), (Nat.le_of_ble_eq_true rfl)⟩) rfl (zrecv B (zat (by decide) (z111 _ _ _)) cl7) zid rfl (Nat.le_of_ble_eq_true rfl) dX7_sings_90 ⟨(Nat.le_of_ble_eq_true rfl), (Nat.le_of_ble_eq_true rfl)⟩ (fun v9 u9 hv9 => ?_)
      subst hv9
      refine zv_st (st' := [.int (m_X7_at (m_X7_lay c v 9 (((m_X7_at c v 9) + (r_X7_stepOf (m_X7_at c v 2))) - ((m_X7_at c v 9) + (r_X7_stepOf (m_X7_at c v 2))) / 65536 * 65536)) v 12), .int 12, .int (nI v), .ref (b + 111)]) rfl ?_
      refine zv_iconst (pc := 93) (v := 1) B rfl dX7_sings_93 ?_
      refine zv_iadd (pc := 94) B dX7_sings_94 ?_
      refine zv_st (st' := [.int ((m_X7_at (m_X7_lay c v 9 (((m_X7_at c v 9) + (r_X7_stepOf (m_X7_at c v 2))) - ((m_X7_at c v 9) + (r_X7_stepOf (m_X7_at c v 2))) / 65536 * 65536)) v 12) + 1), .int (nI 12), .int (nI v), .ref (b + 111)]) rfl ?_
      refine zv_callV (pc := 95) (As := [.int (nI v), .int (nI 12), .int ((m_X7_at (m_X7_lay c v 9 (((m_X7_at c v 9) + (r_X7_stepOf (m_X7_at c v 2))) - ((m_X7_at c v 9) + (r_X7_stepOf (m_X7_at c v 2))) / 65536 * 65536)) v 12) + 1)]) (rest := []) B (k_X7_lay (k := 12) l E b _ _ _ _  hv (by decide) ((m_X7_at (m_X7_lay c v 9 (((m_X7_at c v 9) + (r_X7_stepOf (m_X7_at c v 2))) - ((m_X7_at c v 9) + (r_X7_stepOf (m_X7_at c v 2))) / 65536 * 65536)) v 12) + 1) hg2002) (zcwV 3 0 B wm_X7_145 wi_X7_lay wv_X7_lay wn_X7 wcode_X7_lay rfl (by decide +kernel) ⟨(Nat.le_of_ble_eq_true rfl), (Nat.le_of_ble_eq_true rfl)⟩) rfl (zrecv B (zat (by decide) (z111 _ _ _)) cl7) zid rfl (Nat.le_of_ble_eq_true rfl) dX7_sings_95 ⟨(Nat.le_of_ble_eq_true rfl), (Nat.le_of_ble_eq_true rfl)⟩ (fun v9 u9 hv9 => ?_)
      obtain ⟨rfl, hF2006, hg2006⟩ := hv9
      refine zv_st (st' := []) rfl ?_
      refine zv_aload_n (pc := 98) B 1 rfl dX7_sings_98 ?_
      refine zv_iload_n (pc := 99) B 2 rfl dX7_sings_99 ?_
      refine zv_bipush (pc := 100) (v := 12) B rfl dX7_sings_100 ?_
      refine zv_st (st' := [.int (nI 12), .int (nI v), .ref (b + 111)]) rfl ?_
      refine zv_callV (pc := 102) (As := [.int (nI v), .int (nI 12)]) (rest := []) B (k_X7_at (k := 12) l E b _ _ _ _  hv (by decide)) (zcwV 2 0 B wm_X7_132 wi_X7_at wv_X7_at wn_X7 wcode_X7_at rfl (by decide +kernel) ⟨(Nat.le_of_ble_eq_true rfl), (Nat.le_of_ble_eq_true rfl)⟩) rfl (zrecv B (zat (by decide) (z111 _ _ _)) cl7) zid rfl (Nat.le_of_ble_eq_true rfl) dX7_sings_102 ⟨(Nat.le_of_ble_eq_true rfl), (Nat.le_of_ble_eq_true rfl)⟩ (fun v9 u9 hv9 => ?_)
      subst hv9
      refine zv_st (st' := [.int (m_X7_at (m_X7_lay (m_X7_lay c v 9 (((m_X7_at c v 9) + (r_X7_stepOf (m_X7_at c v 2))) - ((m_X7_at c v 9) + (r_X7_stepOf (m_X7_at c v 2))) / 65536 * 65536)) v 12 ((m_X7_at (m_X7_lay c v 9 (((m_X7_at c v 9) + (r_X7_stepOf (m_X7_at c v 2))) - ((m_X7_at c v 9) + (r_X7_stepOf (m_X7_at c v 2))) / 65536 * 65536)) v 12) + 1)) v 12)]) rfl ?_
      refine zv_aload_n (pc := 105) B 1 rfl dX7_sings_105 ?_
      refine zv_iload_n (pc := 106) B 2 rfl dX7_sings_106 ?_
      refine zv_bipush (pc := 107) (v := 8) B rfl dX7_sings_107 ?_
      refine zv_st (st' := [.int (nI 8), .int (nI v), .ref (b + 111), .int (m_X7_at (m_X7_lay (m_X7_lay c v 9 (((m_X7_at c v 9) + (r_X7_stepOf (m_X7_at c v 2))) - ((m_X7_at c v 9) + (r_X7_stepOf (m_X7_at c v 2))) / 65536 * 65536)) v 12 ((m_X7_at (m_X7_lay c v 9 (((m_X7_at c v 9) + (r_X7_stepOf (m_X7_at c v 2))) - ((m_X7_at c v 9) + (r_X7_stepOf (m_X7_at c v 2))) / 65536 * 65536)) v 12) + 1)) v 12)]) rfl ?_
      refine zv_callV (pc := 109) (As := [.int (nI v), .int (nI 8)]) (rest := [.int (m_X7_at (m_X7_lay (m_X7_lay c v 9 (((m_X7_at c v 9) + (r_X7_stepOf (m_X7_at c v 2))) - ((m_X7_at c v 9) + (r_X7_stepOf (m_X7_at c v 2))) / 65536 * 65536)) v 12 ((m_X7_at (m_X7_lay c v 9 (((m_X7_at c v 9) + (r_X7_stepOf (m_X7_at c v 2))) - ((m_X7_at c v 9) + (r_X7_stepOf (m_X7_at c v 2))) / 65536 * 65536)) v 12) + 1)) v 12)]) B (k_X7_at (k := 8) l E b _ _ _ _  hv (by decide)) (zcwV 2 0 B wm_X7_132 wi_X7_at wv_X7_at wn_X7 wcode_X7_at rfl (by decide +kernel) ⟨(Nat.le_of_ble_eq_true rfl), (Nat.le_of_ble_eq_true rfl)⟩) rfl (zrecv B (zat (by decide) (z111 _ _ _)) cl7) zid rfl (Nat.le_of_ble_eq_true rfl) dX7_sings_109 ⟨(Nat.le_of_ble_eq_true rfl), (Nat.le_of_ble_eq_true rfl)⟩ (fun v9 u9 hv9 => ?_)
      subst hv9
      refine zv_st (st' := [.int (m_X7_at (m_X7_lay (m_X7_lay c v 9 (((m_X7_at c v 9) + (r_X7_stepOf (m_X7_at c v 2))) - ((m_X7_at c v 9) + (r_X7_stepOf (m_X7_at c v 2))) / 65536 * 65536)) v 12 ((m_X7_at (m_X7_lay c v 9 (((m_X7_at c v 9) + (r_X7_stepOf (m_X7_at c v 2))) - ((m_X7_at c v 9) + (r_X7_stepOf (m_X7_at c v 2))) / 65536 * 65536)) v 12) + 1)) v 8), .int (m_X7_at (m_X7_lay (m_X7_lay c v 9 (((m_X7_at c v 9) + (r_X7_stepOf (m_X7_at c v 2))) - ((m_X7_at c v 9) + (r_X7_stepOf (m_X7_at c v 2))) / 65536 * 65536)) v 12 ((m_X7_at (m_X7_lay c v 9 (((m_X7_at c v 9) + (r_X7_stepOf (m_X7_at c v 2))) - ((m_X7_at c v 9) + (r_X7_stepOf (m_X7_at c v 2))) / 65536 * 65536)) v 12) + 1)) v 12)]) rfl ?_
      refine zv_icmp_ne (pc := 112) (tgt := 141) B dX7_sings_112 rfl (fun h7 => ?_) (fun h7 => ?_)
      · refine zv_iload_n (pc := 141) B 0 rfl dX7_sings_141 ?_
        have hE8 : (((((r_X7_valueOf (m_X7_at c v 4) (m_X7_at c v 9)) * (m_X7_levelAt c v)) / 1000) * (m_X7_at c v 3)) / 100, (m_X7_lay (m_X7_lay c v 9 (((m_X7_at c v 9) + (r_X7_stepOf (m_X7_at c v 2))) - ((m_X7_at c v 9) + (r_X7_stepOf (m_X7_at c v 2))) / 65536 * 65536)) v 12 ((m_X7_at (m_X7_lay c v 9 (((m_X7_at c v 9) + (r_X7_stepOf (m_X7_at c v 2))) - ((m_X7_at c v 9) + (r_X7_stepOf (m_X7_at c v 2))) / 65536 * 65536)) v 12) + 1))) = m_X7_sings c v := (by unfold m_X7_sings; rw [if_neg h1, if_neg h3, if_neg h7])
        exact zv_iret (pc := 142) B (((((r_X7_valueOf (m_X7_at c v 4) (m_X7_at c v 9)) * (m_X7_levelAt c v)) / 1000) * (m_X7_at c v 3)) / 100) hr (fun H hP => ⟨(), ⟨(by rw [(zp2 hE8).1]), (by rw [(zp2 hE8).2]; exact (zfr.call (zfr.call zfr.refl hF2002 (by omega)) hF2006 (by omega))), (by rw [(zp2 hE8).2]; exact hg2006)⟩, (by rw [(zp2 hE8).2]; exact hP)⟩) (Nat.le_of_ble_eq_true rfl) (Nat.le_of_ble_eq_true rfl) dX7_sings_142
      · refine zv_aload_n (pc := 115) B 1 rfl dX7_sings_115 ?_
        refine zv_iload_n (pc := 116) B 2 rfl dX7_sings_116 ?_
        refine zv_iconst (pc := 117) (v := 0) B rfl dX7_sings_117 ?_
        refine zv_iconst (pc := 118) (v := 0) B rfl dX7_sings_118 ?_
        refine zv_st (st' := [.int 0, .int (nI 0), .int (nI v), .ref (b + 111)]) rfl ?_
        refine zv_callV (pc := 119) (As := [.int (nI v), .int (nI 0), .int 0]) (rest := []) B (k_X7_lay (k := 0) l E b _ _ _ _  hv (by decide) 0 hg2006) (zcwV 3 0 B wm_X7_145 wi_X7_lay wv_X7_lay wn_X7 wcode_X7_lay rfl (by decide +kernel) ⟨(Nat.le_of_ble_eq_true rfl), (Nat.le_of_ble_eq_true rfl)⟩) rfl (zrecv B (zat (by decide) (z111 _ _ _)) cl7) zid rfl (Nat.le_of_ble_eq_true rfl) dX7_sings_119 ⟨(Nat.le_of_ble_eq_true rfl), (Nat.le_of_ble_eq_true rfl)⟩ (fun v9 u9 hv9 => ?_)
        obtain ⟨rfl, hF2009, hg2009⟩ := hv9
        refine zv_st (st' := []) rfl ?_
        refine zv_goto (pc := 122) (tgt := 141) B rfl dX7_sings_122 ?_
        refine zv_iload_n (pc := 141) B 0 rfl dX7_sings_141 ?_
        have hE10 : (((((r_X7_valueOf (m_X7_at c v 4) (m_X7_at c v 9)) * (m_X7_levelAt c v)) / 1000) * (m_X7_at c v 3)) / 100, (m_X7_lay (m_X7_lay (m_X7_lay c v 9 (((m_X7_at c v 9) + (r_X7_stepOf (m_X7_at c v 2))) - ((m_X7_at c v 9) + (r_X7_stepOf (m_X7_at c v 2))) / 65536 * 65536)) v 12 ((m_X7_at (m_X7_lay c v 9 (((m_X7_at c v 9) + (r_X7_stepOf (m_X7_at c v 2))) - ((m_X7_at c v 9) + (r_X7_stepOf (m_X7_at c v 2))) / 65536 * 65536)) v 12) + 1)) v 0 0)) = m_X7_sings c v := (by unfold m_X7_sings; rw [if_neg h1, if_neg h3, if_pos h7])
        exact zv_iret (pc := 142) B (((((r_X7_valueOf (m_X7_at c v 4) (m_X7_at c v 9)) * (m_X7_levelAt c v)) / 1000) * (m_X7_at c v 3)) / 100) hr (fun H hP => ⟨(), ⟨(by rw [(zp2 hE10).1]), (by rw [(zp2 hE10).2]; exact (zfr.call (zfr.call (zfr.call zfr.refl hF2002 (by omega)) hF2006 (by omega)) hF2009 (by omega))), (by rw [(zp2 hE10).2]; exact hg2009)⟩, (by rw [(zp2 hE10).2]; exact hP)⟩) (Nat.le_of_ble_eq_true rfl) (Nat.le_of_ble_eq_true rfl) dX7_sings_142
  · refine zv_iconst (pc := 8) (v := 0) B rfl dX7_sings_8 ?_
    have hE11 : (0, c) = m_X7_sings c v := (by unfold m_X7_sings; rw [if_pos h1])
    exact zv_iret (pc := 9) B (0) hr (fun H hP => ⟨(), ⟨(by rw [(zp2 hE11).1]), (by rw [(zp2 hE11).2]; exact zfr.refl), (by rw [(zp2 hE11).2]; exact hg)⟩, (by rw [(zp2 hE11).2]; exact hP)⟩) (Nat.le_of_ble_eq_true rfl) (Nat.le_of_ble_eq_true rfl) dX7_sings_9
