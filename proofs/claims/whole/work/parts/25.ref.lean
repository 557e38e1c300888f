def m_X7_filtered (c : Nat → Nat → Int32) (t : Nat) : Int32 × (Nat → Nat → Int32) := (r_X7_cut (((((c 115 t) * (m_X7_inputOf c t)) + ((c 116 t) * (c 112 (610 + t)))) + ((c 117 t) * (c 112 (620 + t)))) / 64), zup (zup c 112 (610 + t) (m_X7_inputOf c t)) 112 (620 + t) (r_X7_cut (((((c 115 t) * (m_X7_inputOf c t)) + ((c 116 t) * (c 112 (610 + t)))) + ((c 117 t) * (c 112 (620 + t)))) / 64)))
set_option maxRecDepth 100000 in
set_option maxHeartbeats 400000 in
theorem k_X7_filtered (l : Launch) (E : zE) (b : Nat) (c : Nat → Nat → Int32) (w : Nat → Int64) (en : Nat → Nat) (ea : Nat → Nat → Int32) {t : Nat} (ht : t < 10) (hg : zG c) : zM l yX7_filtered (.code yX7_filtered cX7_filtered 4 (some .int) :: zAll) (zRm 1 0 0) E b [.ref (b + 111), .int (nI t)] (zH E b c w en ea) (fun v9 (_ : Unit) => v9 = some (.int (m_X7_filtered c t).1) ∧ zfr 112 113 112 112 c (m_X7_filtered c t).2 ∧ zG (m_X7_filtered c t).2) (fun _ => zH E b ((m_X7_filtered c t).2) w en ea) 0 0 := by
  refine zM_of "ToneGraphModel" (by decide) rfl rfl (Nat.le_of_ble_eq_true rfl) (L0 := [(0, .ref (b + 111)), (1, .int (nI t))]) rfl ?_
  intro p e s m args below meth c9 B hr hname
  refine zv_aload_n (pc := 0) B 0 rfl dX7_filtered_0 ?_
  refine zv_iload_n (pc := 1) B 1 rfl dX7_filtered_1 ?_
  refine zv_callV (pc := 2) (As := [.int (nI t)]) (rest := []) B (k_X7_inputOf l E b _ _ _ _  ht hg) (zcwV 1 0 B wm_X7_180 wi_X7_inputOf wv_X7_inputOf wn_X7 wcode_X7_inputOf rfl (by decide +kernel) ⟨(Nat.le_of_ble_eq_true rfl), (Nat.le_of_ble_eq_true rfl)⟩) rfl (zrecv B (zat (by decide) (z111 _ _ _)) cl7) zid rfl (Nat.le_of_ble_eq_true rfl) dX7_filtered_2 ⟨(Nat.le_of_ble_eq_true rfl), (Nat.le_of_ble_eq_true rfl)⟩ (fun v9 u9 hv9 => ?_)
  subst hv9
  refine zv_st (st' := [.int (m_X7_inputOf c t)]) rfl ?_
  refine zv_istore_n (pc := 5) (L' := [(2, .int (m_X7_inputOf c t)), (0, .ref (b + 111)), (1, .int (nI t))]) B (by decide) rfl dX7_filtered_5 ?_
  refine zv_aload_n (pc := 6) B 1 rfl dX7_filtered_6 ?_
  refine zv_get (pc := 7) (v := .ref (b + 115)) B (zat (by decide) (z111 _ _ _)) cl7 inX7 3 (by decide) wf_X7_19 rfl dX7_filtered_7 ?_
  refine zv_iload_n (pc := 10) B 2 rfl dX7_filtered_10 ?_
  refine zv_iald (pc := 11) (jj := t) B (zat (by decide) (z115 _ _ _)) rfl ht (by decide) dX7_filtered_11 ?_
  refine zv_iload_n (pc := 12) B 0 rfl dX7_filtered_12 ?_
  refine zv_imul (pc := 13) B dX7_filtered_13 ?_
  refine zv_aload_n (pc := 14) B 1 rfl dX7_filtered_14 ?_
  refine zv_get (pc := 15) (v := .ref (b + 116)) B (zat (by decide) (z111 _ _ _)) cl7 inX7 4 (by decide) wf_X7_22 rfl dX7_filtered_15 ?_
  refine zv_iload_n (pc := 18) B 2 rfl dX7_filtered_18 ?_
  refine zv_iald (pc := 19) (jj := t) B (zat (by decide) (z116 _ _ _)) rfl ht (by decide) dX7_filtered_19 ?_
  refine zv_aload_n (pc := 20) B 1 rfl dX7_filtered_20 ?_
  refine zv_get (pc := 21) (v := .ref (b + 112)) B (zat (by decide) (z111 _ _ _)) cl7 inX7 0 (by decide) wf_X7_7 rfl dX7_filtered_21 ?_
  refine zv_sipush (pc := 24) (v := 610) B rfl dX7_filtered_24 ?_
  refine zv_iload_n (pc := 27) B 2 rfl dX7_filtered_27 ?_
  refine zv_iadd (pc := 28) B dX7_filtered_28 ?_
  refine zv_topi (y := nI (610 + t)) (nI_add 610 t) ?_
  refine zv_iald (pc := 29) (jj := (610 + t)) B (zat (by decide) (z112 _ _ _)) rfl (by omega) (by decide) dX7_filtered_29 ?_
  refine zv_imul (pc := 30) B dX7_filtered_30 ?_
  refine zv_iadd (pc := 31) B dX7_filtered_31 ?_
  refine zv_aload_n (pc := 32) B 1 rfl dX7_filtered_32 ?_
  refine zv_get (pc := 33) (v := .ref (b + 117)) B (zat (by decide) (z111 _ _ _)) cl7 inX7 5 (by decide) wf_X7_25 rfl dX7_filtered_33 ?_
  refine zv_iload_n (pc := 36) B 2 rfl dX7_filtered_36 ?_
  refine zv_iald (pc := 37) (jj := t) B (zat (by decide) (z117 _ _ _)) rfl ht (by decide) dX7_filtered_37 ?_
  refine zv_aload_n (pc := 38) B 1 rfl dX7_filtered_38 ?_
  refine zv_get (pc := 39) (v := .ref (b + 112)) B (zat (by decide) (z111 _ _ _)) cl7 inX7 0 (by decide) wf_X7_7 rfl dX7_filtered_39 ?_
  refine zv_sipush (pc := 42) (v := 620) B rfl dX7_filtered_42 ?_
  refine zv_iload_n (pc := 45) B 2 rfl dX7_filtered_45 ?_
  refine zv_iadd (pc := 46) B dX7_filtered_46 ?_
  refine zv_topi (y := nI (620 + t)) (nI_add 620 t) ?_
  refine zv_iald (pc := 47) (jj := (620 + t)) B (zat (by decide) (z112 _ _ _)) rfl (by omega) (by decide) dX7_filtered_47 ?_
  refine zv_imul (pc := 48) B dX7_filtered_48 ?_
  refine zv_iadd (pc := 49) B dX7_filtered_49 ?_
  refine zv_bipush (pc := 50) (v := 64) B rfl dX7_filtered_50 ?_
  refine zv_idiv (pc := 52) B (by decide) dX7_filtered_52 ?_
  refine zv_callS (pc := 53) (As := [.int (((((c 115 t) * (m_X7_inputOf c t)) + ((c 116 t) * (c 112 (610 + t)))) + ((c 117 t) * (c 112 (620 + t)))) / 64)]) (rest := []) B (k_X7_cut l E b (((((c 115 t) * (m_X7_inputOf c t)) + ((c 116 t) * (c 112 (610 + t)))) + ((c 117 t) * (c 112 (620 + t)))) / 64)) (zcwS 1 0 B wm_X7_183 ws_X7_cut wn_X7 wcode_X7_cut (by decide +kernel) ⟨(Nat.le_of_ble_eq_true rfl), (Nat.le_of_ble_eq_true rfl)⟩) rfl zid rfl (Nat.le_of_ble_eq_true rfl) dX7_filtered_53 ⟨(Nat.le_of_ble_eq_true rfl), (Nat.le_of_ble_eq_true rfl)⟩ (fun v9 u9 hv9 => ?_)
  subst hv9
  refine zv_st (st' := [.int (r_X7_cut (((((c 115 t) * (m_X7_inputOf c t)) + ((c 116 t) * (c 112 (610 + t)))) + ((c 117 t) * (c 112 (620 + t)))) / 64))]) rfl ?_
  refine zv_istore_n (pc := 56) (L' := [(3, .int (r_X7_cut (((((c 115 t) * (m_X7_inputOf c t)) + ((c 116 t) * (c 112 (610 + t)))) + ((c 117 t) * (c 112 (620 + t)))) / 64))), (2, .int (m_X7_inputOf c t)), (0, .ref (b + 111)), (1, .int (nI t))]) B (by decide) rfl dX7_filtered_56 ?_
  refine zv_aload_n (pc := 57) B 2 rfl dX7_filtered_57 ?_
  refine zv_get (pc := 58) (v := .ref (b + 112)) B (zat (by decide) (z111 _ _ _)) cl7 inX7 0 (by decide) wf_X7_7 rfl dX7_filtered_58 ?_
  refine zv_sipush (pc := 61) (v := 610) B rfl dX7_filtered_61 ?_
  refine zv_iload_n (pc := 64) B 3 rfl dX7_filtered_64 ?_
  refine zv_iadd (pc := 65) B dX7_filtered_65 ?_
  refine zv_topi (y := nI (610 + t)) (nI_add 610 t) ?_
  refine zv_iload_n (pc := 66) B 1 rfl dX7_filtered_66 ?_
  refine zs_iast (pc := 67) (jj := (610 + t)) B zid (by decide) rfl (fun x w e => z112 x w e) rfl (by omega) (by decide) dX7_filtered_67 ?_
  refine zv_aload_n (pc := 68) B 2 rfl dX7_filtered_68 ?_
  refine zv_get (pc := 69) (v := .ref (b + 112)) B (zat (by decide) (z111 _ _ _)) cl7 inX7 0 (by decide) wf_X7_7 rfl dX7_filtered_69 ?_
  refine zv_sipush (pc := 72) (v := 620) B rfl dX7_filtered_72 ?_
  refine zv_iload_n (pc := 75) B 3 rfl dX7_filtered_75 ?_
  refine zv_iadd (pc := 76) B dX7_filtered_76 ?_
  refine zv_topi (y := nI (620 + t)) (nI_add 620 t) ?_
  refine zv_iload_n (pc := 77) B 0 rfl dX7_filtered_77 ?_
  refine zs_iast (pc := 78) (jj := (620 + t)) B zid (by decide) rfl (fun x w e => z112 x w e) rfl (by omega) (by decide) dX7_filtered_78 ?_
  refine zv_iload_n (pc := 79) B 0 rfl dX7_filtered_79 ?_
  have hE1 : (r_X7_cut (((((c 115 t) * (m_X7_inputOf c t)) + ((c 116 t) * (c 112 (610 + t)))) + ((c 117 t) * (c 112 (620 + t)))) / 64), zup (zup c 112 (610 + t) (m_X7_inputOf c t)) 112 (620 + t) (r_X7_cut (((((c 115 t) * (m_X7_inputOf c t)) + ((c 116 t) * (c 112 (610 + t)))) + ((c 117 t) * (c 112 (620 + t)))) / 64))) = m_X7_filtered c t := (by unfold m_X7_filtered; rfl)
  exact zv_iret (pc := 80) B (r_X7_cut (((((c 115 t) * (m_X7_inputOf c t)) + ((c 116 t) * (c 112 (610 + t)))) + ((c 117 t) * (c 112 (620 + t)))) / 64)) hr (fun H hP => ⟨(), ⟨(by rw [(zp2 hE1).1]), (by rw [(zp2 hE1).2]; exact (zfr.up (zfr.up zfr.refl (by omega)) (by omega))), (by rw [(zp2 hE1).2]; exact (zG.npl (zG.npl hg (by omega)) (by omega)))⟩, (by rw [(zp2 hE1).2]; exact hP)⟩) (Nat.le_of_ble_eq_true rfl) (Nat.le_of_ble_eq_true rfl) dX7_filtered_80

def m_X7_setEnvelope (c : Nat → Nat → Int32) (x y z u : Int32) : Int32 × (Nat → Nat → Int32) := if (r_X7_in x 0 200) = 0 then (if ((m_X7_checked c 0).1) ≤ 0 then (((m_X7_checked c 0).2) 111 18, zup (zup (zup (zup ((m_X7_checked c 0).2) 111 16 x) 111 17 y) 111 18 z) 111 19 u) else (0, (m_X7_checked c 0).2)) else (if (r_X7_in y 0 200) = 0 then (if ((m_X7_checked c 0).1) ≤ 0 then (((m_X7_checked c 0).2) 111 18, zup (zup (zup (zup ((m_X7_checked c 0).2) 111 16 x) 111 17 y) 111 18 z) 111 19 u) else (0, (m_X7_checked c 0).2)) else (if (r_X7_in z 0 1000) = 0 then (if ((m_X7_checked c 0).1) ≤ 0 then (((m_X7_checked c 0).2) 111 18, zup (zup (zup (zup ((m_X7_checked c 0).2) 111 16 x) 111 17 y) 111 18 z) 111 19 u) else (0, (m_X7_checked c 0).2)) else (if (r_X7_in u 0 200) = 0 then (if ((m_X7_checked c 0).1) ≤ 0 then (((m_X7_checked c 0).2) 111 18, zup (zup (zup (zup ((m_X7_checked c 0).2) 111 16 x) 111 17 y) 111 18 z) 111 19 u) else (0, (m_X7_checked c 0).2)) else (if ((m_X7_checked c 1).1) ≤ 0 then (((m_X7_checked c 1).2) 111 18, zup (zup (zup (zup ((m_X7_checked c 1).2) 111 16 x) 111 17 y) 111 18 z) 111 19 u) else (0, (m_X7_checked c 1).2)))))
set_option maxRecDepth 100000 in
set_option maxHeartbeats 400000 in
theorem k_X7_setEnvelope (l : Launch) (E : zE) (b : Nat) (c : Nat → Nat → Int32) (w : Nat → Int64) (en : Nat → Nat) (ea : Nat → Nat → Int32) (x y z u : Int32) (hg : zG c) : zM l yX7_setEnvelope (.code yX7_setEnvelope cX7_setEnvelope 6 (some .int) :: zAll) (zRm 1 0 0) E b [.ref (b + 111), .int x, .int y, .int z, .int u] (zH E b c w en ea) (fun v9 (_ : Unit) => v9 = some (.int (m_X7_setEnvelope c x y z u).1) ∧ zfr 111 112 111 111 c (m_X7_setEnvelope c x y z u).2 ∧ zG (m_X7_setEnvelope c x y z u).2) (fun _ => zH E b ((m_X7_setEnvelope c x y z u).2) w en ea) 0 0 := by
  refine zM_of "ToneGraphModel" (by decide) rfl rfl (Nat.le_of_ble_eq_true rfl) (L0 := [(0, .ref (b + 111)), (1, .int x), (2, .int y), (3, .int z), (4, .int u)]) rfl ?_
  intro p e s m args below meth c9 B hr hname
  refine zv_aload_n (pc := 0) B 0 rfl dX7_setEnvelope_0 ?_
  refine zv_iload_n (pc := 1) B 1 rfl dX7_setEnvelope_1 ?_
  refine zv_iconst (pc := 2) (v := 0) B rfl dX7_setEnvelope_2 ?_
  refine zv_sipush (pc := 3) (v := 200) B rfl dX7_setEnvelope_3 ?_
  refine zv_callS (pc := 6) (As := [.int x, .int 0, .int 200]) (rest := [.ref (b + 111)]) B (k_X7_in l E b x 0 200) (zcwS 3 0 B wm_X7_94 ws_X7_in wn_X7 wcode_X7_in (by decide +kernel) ⟨(Nat.le_of_ble_eq_true rfl), (Nat.le_of_ble_eq_true rfl)⟩) rfl zid rfl (Nat.le_of_ble_eq_true rfl) dX7_setEnvelope_6 ⟨(Nat.le_of_ble_eq_true rfl), (Nat.le_of_ble_eq_true rfl)⟩ (fun v9 u9 hv9 => ?_)
  subst hv9
  refine zv_st (st' := [.int (r_X7_in x 0 200), .ref (b + 111)]) rfl ?_
  refine zv_if_eq (pc := 9) (tgt := 50) B dX7_setEnvelope_9 rfl (fun h1 => ?_) (fun h1 => ?_)
  · refine zv_iconst (pc := 50) (v := 0) B rfl dX7_setEnvelope_50 ?_
    refine zv_callV (pc := 51) (As := [.int 0]) (rest := []) B (k_X7_checked l E b _ _ _ _  0 hg) (zcwV 1 0 B wm_X7_121 wi_X7_checked wv_X7_checked wn_X7 wcode_X7_checked rfl (by decide +kernel) ⟨(Nat.le_of_ble_eq_true rfl), (Nat.le_of_ble_eq_true rfl)⟩) rfl (zrecv B (zat (by decide) (z111 _ _ _)) cl7) zid rfl (Nat.le_of_ble_eq_true rfl) dX7_setEnvelope_51 ⟨(Nat.le_of_ble_eq_true rfl), (Nat.le_of_ble_eq_true rfl)⟩ (fun v9 u9 hv9 => ?_)
    obtain ⟨rfl, hF2002, hg2002⟩ := hv9
    refine zv_st (st' := [.int ((m_X7_checked c 0).1)]) rfl ?_
    refine zv_if_le (pc := 54) (tgt := 59) B dX7_setEnvelope_54 rfl (fun h3 => ?_) (fun h3 => ?_)
    · refine zv_aload_n (pc := 59) B 0 rfl dX7_setEnvelope_59 ?_
      refine zv_get (pc := 60) (v := .int (((m_X7_checked c 0).2) 111 18)) B (zat (by decide) (z111 _ _ _)) cl7 inX7 18 (by decide) wf_X7_66 rfl dX7_setEnvelope_60 ?_
      refine zv_istore (pc := 63) (L' := [(5, .int (((m_X7_checked c 0).2) 111 18)), (0, .ref (b + 111)), (1, .int x), (2, .int y), (3, .int z), (4, .int u)]) B (by decide) rfl dX7_setEnvelope_63 ?_
      refine zv_aload_n (pc := 65) B 1 rfl dX7_setEnvelope_65 ?_
      refine zv_iload_n (pc := 66) B 2 rfl dX7_setEnvelope_66 ?_
      refine zs_put9 (pc := 67) (f := 16) (F := fun x9 => [.ref (b + 112), .ref (b + 113), .ref (b + 114), .ref (b + 115), .ref (b + 116), .ref (b + 117), .ref (b + 118), .ref (b + 119), .ref (b + 120), .ref (b + 121), .ref (b + 122), .ref (b + 123), .int (x9 12), .int (x9 13), .int (x9 14), .int (x9 15), .int (x9 16), .int (x9 17), .int (x9 18), .int (x9 19), .int (x9 20), .int (x9 21), .int (x9 22), .int (x9 23), .int (x9 24), .long (w 111)]) B zid (by decide) rfl (fun x => z111 x _ _) cl7 inX7 tyX7 tyX7_ok nmX7 (by decide) wf_X7_60 rfl rfl rfl rfl (Nat.le_of_ble_eq_true rfl) (fun _ _ => rfl) dX7_setEnvelope_67 ?_
      refine zv_aload_n (pc := 70) B 1 rfl dX7_setEnvelope_70 ?_
      refine zv_iload_n (pc := 71) B 3 rfl dX7_setEnvelope_71 ?_
      refine zs_put9 (pc := 72) (f := 17) (F := fun x9 => [.ref (b + 112), .ref (b + 113), .ref (b + 114), .ref (b + 115), .ref (b + 116), .ref (b + 117), .ref (b + 118), .ref (b + 119), .ref (b + 120), .ref (b + 121), .ref (b + 122), .ref (b + 123), .int (x9 12), .int (x9 13), .int (x9 14), .int (x9 15), .int (x9 16), .int (x9 17), .int (x9 18), .int (x9 19), .int (x9 20), .int (x9 21), .int (x9 22), .int (x9 23), .int (x9 24), .long (w 111)]) B zid (by decide) rfl (fun x => z111 x _ _) cl7 inX7 tyX7 tyX7_ok nmX7 (by decide) wf_X7_63 rfl rfl rfl rfl (Nat.le_of_ble_eq_true rfl) (fun _ _ => rfl) dX7_setEnvelope_72 ?_
      refine zv_aload_n (pc := 75) B 1 rfl dX7_setEnvelope_75 ?_
      refine zv_iload_n (pc := 76) B 4 rfl dX7_setEnvelope_76 ?_
      refine zs_put9 (pc := 77) (f := 18) (F := fun x9 => [.ref (b + 112), .ref (b + 113), .ref (b + 114), .ref (b + 115), .ref (b + 116), .ref (b + 117), .ref (b + 118), .ref (b + 119), .ref (b + 120), .ref (b + 121), .ref (b + 122), .ref (b + 123), .int (x9 12), .int (x9 13), .int (x9 14), .int (x9 15), .int (x9 16), .int (x9 17), .int (x9 18), .int (x9 19), .int (x9 20), .int (x9 21), .int (x9 22), .int (x9 23), .int (x9 24), .long (w 111)]) B zid (by decide) rfl (fun x => z111 x _ _) cl7 inX7 tyX7 tyX7_ok nmX7 (by decide) wf_X7_66 rfl rfl rfl rfl (Nat.le_of_ble_eq_true rfl) (fun _ _ => rfl) dX7_setEnvelope_77 ?_
      refine zv_aload_n (pc := 80) B 1 rfl dX7_setEnvelope_80 ?_
      refine zv_iload (pc := 81) B 5 rfl dX7_setEnvelope_81 ?_
      refine zs_put9 (pc := 83) (f := 19) (F := fun x9 => [.ref (b + 112), .ref (b + 113), .ref (b + 114), .ref (b + 115), .ref (b + 116), .ref (b + 117), .ref (b + 118), .ref (b + 119), .ref (b + 120), .ref (b + 121), .ref (b + 122), .ref (b + 123), .int (x9 12), .int (x9 13), .int (x9 14), .int (x9 15), .int (x9 16), .int (x9 17), .int (x9 18), .int (x9 19), .int (x9 20), .int (x9 21), .int (x9 22), .int (x9 23), .int (x9 24), .long (w 111)]) B zid (by decide) rfl (fun x => z111 x _ _) cl7 inX7 tyX7 tyX7_ok nmX7 (by decide) wf_X7_69 rfl rfl rfl rfl (Nat.le_of_ble_eq_true rfl) (fun _ _ => rfl) dX7_setEnvelope_83 ?_
      refine zv_iload (pc := 86) B 0 rfl dX7_setEnvelope_86 ?_
      have hE4 : (((m_X7_checked c 0).2) 111 18, zup (zup (zup (zup ((m_X7_checked c 0).2) 111 16 x) 111 17 y) 111 18 z) 111 19 u) = m_X7_setEnvelope c x y z u := (by unfold m_X7_setEnvelope; rw [if_pos h1, if_pos h3])
      exact zv_iret (pc := 88) B (((m_X7_checked c 0).2) 111 18) hr (fun H hP => ⟨(), ⟨(by rw [(zp2 hE4).1]), (by rw [(zp2 hE4).2]; exact (zfr.up (zfr.up (zfr.up (zfr.up (zfr.call zfr.refl hF2002 (by omega)) (by omega)) (by omega)) (by omega)) (by omega))), (by rw [(zp2 hE4).2]; exact (zG.up (zG.up (zG.up (zG.up hg2002 (show zn _ ≤ zT9 from zn_T _)) (show zn _ ≤ zT9 from zn_T _)) (show zn _ ≤ zT9 from zn_T _)) (show zn _ ≤ zT9 from zn_T _)))⟩, (by rw [(zp2 hE4).2]; exact hP)⟩) (Nat.le_of_ble_eq_true rfl) (Nat.le_of_ble_eq_true rfl) dX7_setEnvelope_88
    · refine zv_iconst (pc := 57) (v := 0) B rfl dX7_setEnvelope_57 ?_
      have hE5 : (0, (m_X7_checked c 0).2) = m_X7_setEnvelope c x y z u := (by unfold m_X7_setEnvelope; rw [if_pos h1, if_neg h3])
      exact zv_iret (pc := 58) B (0) hr (fun H hP => ⟨(), ⟨(by rw [(zp2 hE5).1]), (by rw [(zp2 hE5).2]; exact (zfr.call zfr.refl hF2002 (by omega))), (by rw [(zp2 hE5).2]; exact hg2002)⟩, (by rw [(zp2 hE5).2]; exact hP)⟩) (Nat.le_of_ble_eq_true rfl) (Nat.le_of_ble_eq_true rfl) dX7_setEnvelope_58
  · refine zv_iload_n (pc := 12) B 2 rfl dX7_setEnvelope_12 ?_
    refine zv_iconst (pc := 13) (v := 0) B rfl dX7_setEnvelope_13 ?_
    refine zv_sipush (pc := 14) (v := 200) B rfl dX7_setEnvelope_14 ?_
    refine zv_callS (pc := 17) (As := [.int y, .int 0, .int 200]) (rest := [.ref (b + 111)]) B (k_X7_in l E b y 0 200) (zcwS 3 0 B wm_X7_94 ws_X7_in wn_X7 wcode_X7_in (by decide +kernel) ⟨(Nat.le_of_ble_eq_true rfl), (Nat.le_of_ble_eq_true rfl)⟩) rfl zid rfl (Nat.le_of_ble_eq_true rfl) dX7_setEnvelope_17 ⟨(Nat.le_of_ble_eq_true rfl), (Nat.le_of_ble_eq_true rfl)⟩ (fun v9 u9 hv9 => ?_)
    subst hv9
    refine zv_st (st' := [.int (r_X7_in y 0 200), .ref (b + 111)]) rfl ?_
    refine zv_if_eq (pc := 20) (tgt := 50) B dX7_setEnvelope_20 rfl (fun h6 => ?_) (fun h6 => ?_)
    · refine zv_iconst (pc := 50) (v := 0) B rfl dX7_setEnvelope_50 ?_
      refine zv_callV (pc := 51) (As := [.int 0]) (rest := []) B (k_X7_checked l E b _ _ _ _  0 hg) (zcwV 1 0 B wm_X7_121 wi_X7_checked wv_X7_checked wn_X7 wcode_X7_checked rfl (by decide +kernel) ⟨(Nat.le_of_ble_eq_true rfl), (Nat.le_of_ble_eq_true rfl)⟩) rfl (zrecv B (zat (by decide) (z111 _ _ _)) cl7) zid rfl (Nat.le_of_ble_eq_true rfl) dX7_setEnvelope_51 ⟨(Nat.le_of_ble_eq_true rfl), (Nat.le_of_ble_eq_true rfl)⟩ (fun v9 u9 hv9 => ?_)
      obtain ⟨rfl, hF2007, hg2007⟩ := hv9
      refine zv_st (st' := [.int ((m_X7_checked c 0).1)]) rfl ?_
      refine zv_if_le (pc := 54) (tgt := 59) B dX7_setEnvelope_54 rfl (fun h8 => ?_) (fun h8 => ?_)
      · refine zv_aload_n (pc := 59) B 0 rfl dX7_setEnvelope_59 ?_
        refine zv_get (pc := 60) (v := .int (((m_X7_checked c 0).2) 111 18)) B (zat (by decide) (z111 _ _ _)) cl7 inX7 18 (by decide) wf_X7_66 rfl dX7_setEnvelope_60 ?_
        refine zv_istore (pc := 63) (L' := [(5, .int (((m_X7_checked c 0).2) 111 18)), (0, .ref (b + 111)), (1, .int x), (2, .int y), (3, .int z), (4, .int u)]) B (by decide) rfl dX7_setEnvelope_63 ?_
        refine zv_aload_n (pc := 65) B 1 rfl dX7_setEnvelope_65 ?_
        refine zv_iload_n (pc := 66) B 2 rfl dX7_setEnvelope_66 ?_
        refine zs_put9 (pc := 67) (f := 16) (F := fun x9 => [.ref (b + 112), .ref (b + 113), .ref (b + 114), .ref (b + 115), .ref (b + 116), .ref (b + 117), .ref (b + 118), .ref (b + 119), .ref (b + 120), .ref (b + 121), .ref (b + 122), .ref (b + 123), .int (x9 12), .int (x9 13), .int (x9 14), .int (x9 15), .int (x9 16), .int (x9 17), .int (x9 18), .int (x9 19), .int (x9 20), .int (x9 21), .int (x9 22), .int (x9 23), .int (x9 24), .long (w 111)]) B zid (by decide) rfl (fun x => z111 x _ _) cl7 inX7 tyX7 tyX7_ok nmX7 (by decide) wf_X7_60 rfl rfl rfl rfl (Nat.le_of_ble_eq_true rfl) (fun _ _ => rfl) dX7_setEnvelope_67 ?_
        refine zv_aload_n (pc := 70) B 1 rfl dX7_setEnvelope_70 ?_
        refine zv_iload_n (pc := 71) B 3 rfl dX7_setEnvelope_71 ?_
        refine zs_put9 (pc := 72) (f := 17) (F := fun x9 => [.ref (b + 112), .ref (b + 113), .ref (b + 114), .ref (b + 115), .ref (b + 116), .ref (b + 117), .ref (b + 118), .ref (b + 119), .ref (b + 120), .ref (b + 121), .ref (b + 122), .ref (b + 123), .int (x9 12), .int (x9 13), .int (x9 14), .int (x9 15), .int (x9 16), .int (x9 17), .int (x9 18), .int (x9 19), .int (x9 20), .int (x9 21), .int (x9 22), .int (x9 23), .int (x9 24), .long (w 111)]) B zid (by decide) rfl (fun x => z111 x _ _) cl7 inX7 tyX7 tyX7_ok nmX7 (by decide) wf_X7_63 rfl rfl rfl rfl (Nat.le_of_ble_eq_true rfl) (fun _ _ => rfl) dX7_setEnvelope_72 ?_
        refine zv_aload_n (pc := 75) B 1 rfl dX7_setEnvelope_75 ?_
        refine zv_iload_n (pc := 76) B 4 rfl dX7_setEnvelope_76 ?_
        refine zs_put9 (pc := 77) (f := 18) (F := fun x9 => [.ref (b + 112), .ref (b + 113), .ref (b + 114), .ref (b + 115), .ref (b + 116), .ref (b + 117), .ref (b + 118), .ref (b + 119), .ref (b + 120), .ref (b + 121), .ref (b + 122), .ref (b + 123), .int (x9 12), .int (x9 13), .int (x9 14), .int (x9 15), .int (x9 16), .int (x9 17), .int (x9 18), .int (x9 19), .int (x9 20), .int (x9 21), .int (x9 22), .int (x9 23), .int (x9 24), .long (w 111)]) B zid (by decide) rfl (fun x => z111 x _ _) cl7 inX7 tyX7 tyX7_ok nmX7 (by decide) wf_X7_66 rfl rfl rfl rfl (Nat.le_of_ble_eq_true rfl) (fun _ _ => rfl) dX7_setEnvelope_77 ?_
        refine zv_aload_n (pc := 80) B 1 rfl dX7_setEnvelope_80 ?_
        refine zv_iload (pc := 81) B 5 rfl dX7_setEnvelope_81 ?_
        refine zs_put9 (pc := 83) (f := 19) (F := fun x9 => [.ref (b + 112), .ref (b + 113), .ref (b + 114), .ref (b + 115), .ref (b + 116), .ref (b + 117), .ref (b + 118), .ref (b + 119), .ref (b + 120), .ref (b + 121), .ref (b + 122), .ref (b + 123), .int (x9 12), .int (x9 13), .int (x9 14), .int (x9 15), .int (x9 16), .int (x9 17), .int (x9 18), .int (x9 19), .int (x9 20), .int (x9 21), .int (x9 22), .int (x9 23), .int (x9 24), .long (w 111)]) B zid (by decide) rfl (fun x => z111 x _ _) cl7 inX7 tyX7 tyX7_ok nmX7 (by decide) wf_X7_69 rfl rfl rfl rfl (Nat.le_of_ble_eq_true rfl) (fun _ _ => rfl) dX7_setEnvelope_83 ?_
        refine zv_iload (pc := 86) B 0 rfl dX7_setEnvelope_86 ?_
        have hE9 : (((m_X7_checked c 0).2) 111 18, zup (zup (zup (zup ((m_X7_checked c 0).2) 111 16 x) 111 17 y) 111 18 z) 111 19 u) = m_X7_setEnvelope c x y z u := (by unfold m_X7_setEnvelope; rw [if_neg h1, if_pos h6, if_pos h8])
        exact zv_iret (pc := 88) B (((m_X7_checked c 0).2) 111 18) hr (fun H hP => ⟨(), ⟨(by rw [(zp2 hE9).1]), (by rw [(zp2 hE9).2]; exact (zfr.up (zfr.up (zfr.up (zfr.up (zfr.call zfr.refl hF2007 (by omega)) (by omega)) (by omega)) (by omega)) (by omega))), (by rw [(zp2 hE9).2]; exact (zG.up (zG.up (zG.up (zG.up hg2007 (show zn _ ≤ zT9 from zn_T _)) (show zn _ ≤ zT9 from zn_T _)) (show zn _ ≤ zT9 from zn_T _)) (show zn _ ≤ zT9 from zn_T _)))⟩, (by rw [(zp2 hE9).2]; exact hP)⟩) (Nat.le_of_ble_eq_true rfl) (Nat.le_of_ble_eq_true rfl) dX7_setEnvelope_88
      · refine zv_iconst (pc := 57) (v := 0) B rfl dX7_setEnvelope_57 ?_
        have hE10 : (0, (m_X7_checked c 0).2) = m_X7_setEnvelope c x y z u := (by unfold m_X7_setEnvelope; rw [if_neg h1, if_pos h6, if_neg h8])
        exact zv_iret (pc := 58) B (0) hr (fun H hP => ⟨(), ⟨(by rw [(zp2 hE10).1]), (by rw [(zp2 hE10).2]; exact (zfr.call zfr.refl hF2007 (by omega))), (by rw [(zp2 hE10).2]; exact hg2007)⟩, (by rw [(zp2 hE10).2]; exact hP)⟩) (Nat.le_of_ble_eq_true rfl) (Nat.le_of_ble_eq_true rfl) dX7_setEnvelope_58
    · refine zv_iload_n (pc := 23) B 3 rfl dX7_setEnvelope_23 ?_
      refine zv_iconst (pc := 24) (v := 0) B rfl dX7_setEnvelope_24 ?_
      refine zv_sipush (pc := 25) (v := 1000) B rfl dX7_setEnvelope_25 ?_
      refine zv_callS (pc := 28) (As := [.int z, .int 0, .int 1000]) (rest := [.ref (b + 111)]) B (k_X7_in l E b z 0 1000) (zcwS 3 0 B wm_X7_94 ws_X7_in wn_X7 wcode_X7_in (by decide +kernel) ⟨(Nat.le_of_ble_eq_true rfl), (Nat.le_of_ble_eq_true rfl)⟩) rfl zid rfl (Nat.le_of_ble_eq_true rfl) dX7_setEnvelope_28 ⟨(Nat.le_of_ble_eq_true rfl), (Nat.le_of_ble_eq_true rfl)⟩ (fun v9 u9 hv9 => ?_)
      subst hv9
      refine zv_st (st' := [.int (r_X7_in z 0 1000), .ref (b + 111)]) rfl ?_
      refine zv_if_eq (pc := 31) (tgt := 50) B dX7_setEnvelope_31 rfl (fun h11 => ?_) (fun h11 => ?_)
      · refine zv_iconst (pc := 50) (v := 0) B rfl dX7_setEnvelope_50 ?_
        refine zv_callV (pc := 51) (As := [.int 0]) (rest := []) B (k_X7_checked l E b _ _ _ _  0 hg) (zcwV 1 0 B wm_X7_121 wi_X7_checked wv_X7_checked wn_X7 wcode_X7_checked rfl (by decide +kernel) ⟨(Nat.le_of_ble_eq_true rfl), (Nat.le_of_ble_eq_true rfl)⟩) rfl (zrecv B (zat (by decide) (z111 _ _ _)) cl7) zid rfl (Nat.le_of_ble_eq_true rfl) dX7_setEnvelope_51 ⟨(Nat.le_of_ble_eq_true rfl), (Nat.le_of_ble_eq_true rfl)⟩ (fun v9 u9 hv9 => ?_)
        obtain ⟨rfl, hF2012, hg2012⟩ := hv9
        refine zv_st (st' := [.int ((m_X7_checked c 0).1)]) rfl ?_
        refine zv_if_le (pc := 54) (tgt := 59) B dX7_setEnvelope_54 rfl (fun h13 => ?_) (fun h13 => ?_)
        · refine zv_aload_n (pc := 59) B 0 rfl dX7_setEnvelope_59 ?_
          refine zv_get (pc := 60) (v := .int (((m_X7_checked c 0).2) 111 18)) B (zat (by decide) (z111 _ _ _)) cl7 inX7 18 (by decide) wf_X7_66 rfl dX7_setEnvelope_60 ?_
          refine zv_istore (pc := 63) (L' := [(5, .int (((m_X7_checked c 0).2) 111 18)), (0, .ref (b + 111)), (1, .int x), (2, .int y), (3, .int z), (4, .int u)]) B (by decide) rfl dX7_setEnvelope_63 ?_
          refine zv_aload_n (pc := 65) B 1 rfl dX7_setEnvelope_65 ?_
          refine zv_iload_n (pc := 66) B 2 rfl dX7_setEnvelope_66 ?_
          refine zs_put9 (pc := 67) (f := 16) (F := fun x9 => [.ref (b + 112), .ref (b + 113), .ref (b + 114), .ref (b + 115), .ref (b + 116), .ref (b + 117), .ref (b + 118), .ref (b + 119), .ref (b + 120), .ref (b + 121), .ref (b + 122), .ref (b + 123), .int (x9 12), .int (x9 13), .int (x9 14), .int (x9 15), .int (x9 16), .int (x9 17), .int (x9 18), .int (x9 19), .int (x9 20), .int (x9 21), .int (x9 22), .int (x9 23), .int (x9 24), .long (w 111)]) B zid (by decide) rfl (fun x => z111 x _ _) cl7 inX7 tyX7 tyX7_ok nmX7 (by decide) wf_X7_60 rfl rfl rfl rfl (Nat.le_of_ble_eq_true rfl) (fun _ _ => rfl) dX7_setEnvelope_67 ?_
          refine zv_aload_n (pc := 70) B 1 rfl dX7_setEnvelope_70 ?_
          refine zv_iload_n (pc := 71) B 3 rfl dX7_setEnvelope_71 ?_
          refine zs_put9 (pc := 72) (f := 17) (F := fun x9 => [.ref (b + 112), .ref (b + 113), .ref (b + 114), .ref (b + 115), .ref (b + 116), .ref (b + 117), .ref (b + 118), .ref (b + 119), .ref (b + 120), .ref (b + 121), .ref (b + 122), .ref (b + 123), .int (x9 12), .int (x9 13), .int (x9 14), .int (x9 15), .int (x9 16), .int (x9 17), .int (x9 18), .int (x9 19), .int (x9 20), .int (x9 21), .int (x9 22), .int (x9 23), .int (x9 24), .long (w 111)]) B zid (by decide) rfl (fun x => z111 x _ _) cl7 inX7 tyX7 tyX7_ok nmX7 (by decide) wf_X7_63 rfl rfl rfl rfl (Nat.le_of_ble_eq_true rfl) (fun _ _ => rfl) dX7_setEnvelope_72 ?_
          refine zv_aload_n (pc := 75) B 1 rfl dX7_setEnvelope_75 ?_
          refine zv_iload_n (pc := 76) B 4 rfl dX7_setEnvelope_76 ?_
          refine zs_put9 (pc := 77) (f := 18) (F := fun x9 => [.ref (b + 112), .ref (b + 113), .ref (b + 114), .ref (b + 115), .ref (b + 116), .ref (b + 117), .ref (b + 118), .ref (b + 119), .ref (b + 120), .ref (b + 121), .ref (b + 122), .ref (b + 123), .int (x9 12), .int (x9 13), .int (x9 14), .int (x9 15), .int (x9 16), .int (x9 17), .int (x9 18), .int (x9 19), .int (x9 20), .int (x9 21), .int (x9 22), .int (x9 23), .int (x9 24), .long (w 111)]) B zid (by decide) rfl (fun x => z111 x _ _) cl7 inX7 tyX7 tyX7_ok nmX7 (by decide) wf_X7_66 rfl rfl rfl rfl (Nat.le_of_ble_eq_true rfl) (fun _ _ => rfl) dX7_setEnvelope_77 ?_
          refine zv_aload_n (pc := 80) B 1 rfl dX7_setEnvelope_80 ?_
          refine zv_iload (pc := 81) B 5 rfl dX7_setEnvelope_81 ?_
          refine zs_put9 (pc := 83) (f := 19) (F := fun x9 => [.ref (b + 112), .ref (b + 113), .ref (b + 114), .ref (b + 115), .ref (b + 116), .ref (b + 117), .ref (b + 118), .ref (b + 119), .ref (b + 120), .ref (b + 121), .ref (b + 122), .ref (b + 123), .int (x9 12), .int (x9 13), .int (x9 14), .int (x9 15), .int (x9 16), .int (x9 17), .int (x9 18), .int (x9 19), .int (x9 20), .int (x9 21), .int (x9 22), .int (x9 23), .int (x9 24), .long (w 111)]) B zid (by decide) rfl (fun x => z111 x _ _) cl7 inX7 tyX7 tyX7_ok nmX7 (by decide) wf_X7_69 rfl rfl rfl rfl (Nat.le_of_ble_eq_true rfl) (fun _ _ => rfl) dX7_setEnvelope_83 ?_
          refine zv_iload (pc := 86) B 0 rfl dX7_setEnvelope_86 ?_
          have hE14 : (((m_X7_checked c 0).2) 111 18, zup (zup (zup (zup ((m_X7_checked c 0).2) 111 16 x) 111 17 y) 111 18 z) 111 19 u) = m_X7_setEnvelope c x y z u := (by unfold m_X7_setEnvelope; rw [if_neg h1, if_neg h6, if_pos h11, if_pos h13])
          exact zv_iret (pc := 88) B (((m_X7_checked c 0).2) 111 18) hr (fun H hP => ⟨(), ⟨(by rw [(zp2 hE14).1]), (by rw [(zp2 hE14).2]; exact (zfr.up (zfr.up (zfr.up (zfr.up (zfr.call zfr.refl hF2012 (by omega)) (by omega)) (by omega)) (by omega)) (by omega))), (by rw [(zp2 hE14).2]; exact (zG.up (zG.up (zG.up (zG.up hg2012 (show zn _ ≤ zT9 from zn_T _)) (show zn _ ≤ zT9 from zn_T _)) (show zn _ ≤ zT9 from zn_T _)) (show zn _ ≤ zT9 from zn_T _)))⟩, (by rw [(zp2 hE14).2]; exact hP)⟩) (Nat.le_of_ble_eq_true rfl) (Nat.le_of_ble_eq_true rfl) dX7_setEnvelope_88
        · refine zv_iconst (pc := 57) (v := 0) B rfl dX7_setEnvelope_57 ?_
          have hE15 : (0, (m_X7_checked c 0).2) = m_X7_setEnvelope c x y z u := (by unfold m_X7_setEnvelope; rw [if_neg h1, if_neg h6, if_pos h11, if_neg h13])
          exact zv_iret (pc := 58) B (0) hr (fun H hP => ⟨(), ⟨(by rw [(zp2 hE15).1]), (by rw [(zp2 hE15).2]; exact (zfr.call zfr.refl hF2012 (by omega))), (by rw [(zp2 hE15).2]; exact hg2012)⟩, (by rw [(zp2 hE15).2]; exact hP)⟩) (Nat.le_of_ble_eq_true rfl) (Nat.le_of_ble_eq_true rfl) dX7_setEnvelope_58
      · refine zv_iload (pc := 34) B 4 rfl dX7_setEnvelope_34 ?_
        refine zv_iconst (pc := 36) (v := 0) B rfl dX7_setEnvelope_36 ?_
        refine zv_sipush (pc := 37) (v := 200) B rfl dX7_setEnvelope_37 ?_
        refine zv_callS (pc := 40) (As := [.int u, .int 0, .int 200]) (rest := [.ref (b + 111)]) B (k_X7_in l E b u 0 200) (zcwS 3 0 B wm_X7_94 ws_X7_in wn_X7 wcode_X7_in (by decide +kernel) ⟨(Nat.le_of_ble_eq_true rfl), (Nat.le_of_ble_eq_true rfl)⟩) rfl zid rfl (Nat.le_of_ble_eq_true rfl) dX7_setEnvelope_40 ⟨(Nat.le_of_ble_eq_true rfl), (Nat.le_of_ble_eq_true rfl)⟩ (fun v9 u9 hv9 => ?_)
        subst hv9
        refine zv_st (st' := [.int (r_X7_in u 0 200), .ref (b + 111)]) rfl ?_
        refine zv_if_eq (pc := 43) (tgt := 50) B dX7_setEnvelope_43 rfl (fun h16 => ?_) (fun h16 => ?_)
        · refine zv_iconst (pc := 50) (v := 0) B rfl dX7_setEnvelope_50 ?_
          refine zv_callV (pc := 51) (As := [.int 0]) (rest := []) B (k_X7_checked l E b _ _ _ _  0 hg) (zcwV 1 0 B wm_X7_121 wi_X7_checked wv_X7_checked wn_X7 wcode_X7_checked rfl (by decide +kernel) ⟨(Nat.le_of_ble_eq_true rfl), (Nat.le_of_ble_eq_true rfl)⟩) rfl (zrecv B (zat (by decide) (z111 _ _ _)) cl7) zid rfl (Nat.le_of_ble_eq_true rfl) dX7_setEnvelope_51 ⟨(Nat.le_of_ble_eq_true rfl), (Nat.le_of_ble_eq_true rfl)⟩ (fun v9 u9 hv9 => ?_)
          obtain ⟨rfl, hF2017, hg2017⟩ := hv9
          refine zv_st (st' := [.int ((m_X7_checked c 0).1)]) rfl ?_
          refine zv_if_le (pc := 54) (tgt := 59) B dX7_setEnvelope_54 rfl (fun h18 => ?_) (fun h18 => ?_)
          · refine zv_aload_n (pc := 59) B 0 rfl dX7_setEnvelope_59 ?_
            refine zv_get (pc := 60) (v := .int (((m_X7_checked c 0).2) 111 18)) B (zat (by decide) (z111 _ _ _)) cl7 inX7 18 (by decide) wf_X7_66 rfl dX7_setEnvelope_60 ?_
            refine zv_istore (pc := 63) (L' := [(5, .int (((m_X7_checked c 0).2) 111 18)), (0, .ref (b + 111)), (1, .int x), (2, .int y), (3, .int z), (4, .int u)]) B (by decide) rfl dX7_setEnvelope_63 ?_
            refine zv_aload_n (pc := 65) B 1 rfl dX7_setEnvelope_65 ?_
            refine zv_iload_n (pc := 66) B 2 rfl dX7_setEnvelope_66 ?_
            refine zs_put9 (pc := 67) (f := 16) (F := fun x9 => [.ref (b + 112), .ref (b + 113), .ref (b + 114), .ref (b + 115), .ref (b + 116), .ref (b + 117), .ref (b + 118), .ref (b + 119), .ref (b + 120), .ref (b + 121), .ref (b + 122), .ref (b + 123), .int (x9 12), .int (x9 13), .int (x9 14), .int (x9 15), .int (x9 16), .int (x9 17), .int (x9 18), .int (x9 19), .int (x9 20), .int (x9 21), .int (x9 22), .int (x9 23), .int (x9 24), .long (w 111)]) B zid (by decide) rfl (fun x => z111 x _ _) cl7 inX7 tyX7 tyX7_ok nmX7 (by decide) wf_X7_60 rfl rfl rfl rfl (Nat.le_of_ble_eq_true rfl) (fun _ _ => rfl) dX7_setEnvelope_67 ?_
            refine zv_aload_n (pc := 70) B 1 rfl dX7_setEnvelope_70 ?_
            refine zv_iload_n (pc := 71) B 3 rfl dX7_setEnvelope_71 ?_
            refine zs_put9 (pc := 72) (f := 17) (F := fun x9 => [.ref (b + 112), .ref (b + 113), .ref (b + 114), .ref (b + 115), .ref (b + 116), .ref (b + 117), .ref (b + 118), .ref (b + 119), .ref (b + 120), .ref (b + 121), .ref (b + 122), .ref (b + 123), .int (x9 12), .int (x9 13), .int (x9 14), .int (x9 15), .int (x9 16), .int (x9 17), .int (x9 18), .int (x9 19), .int (x9 20), .int (x9 21), .int (x9 22), .int (x9 23), .int (x9 24), .long (w 111)]) B zid (by decide) rfl (fun x => z111 x _ _) cl7 inX7 tyX7 tyX7_ok nmX7 (by decide) wf_X7_63 rfl rfl rfl rfl (Nat.le_of_ble_eq_true rfl) (fun _ _ => rfl) dX7_setEnvelope_72 ?_
            refine zv_aload_n (pc := 75) B 1 rfl dX7_setEnvelope_75 ?_
            refine zv_iload_n (pc := 76) B 4 rfl dX7_setEnvelope_76 ?_
            refine zs_put9 (pc := 77) (f := 18) (F := fun x9 => [.ref (b + 112), .ref (b + 113), .ref (b + 114), .ref (b + 115), .ref (b + 116), .ref (b + 117), .ref (b + 118), .ref (b + 119), .ref (b + 120), .ref (b + 121), .ref (b + 122), .ref (b + 123), .int (x9 12), .int (x9 13), .int (x9 14), .int (x9 15), .int (x9 16), .int (x9 17), .int (x9 18), .int (x9 19), .int (x9 20), .int (x9 21), .int (x9 22), .int (x9 23), .int (x9 24), .long (w 111)]) B zid (by decide) rfl (fun x => z111 x _ _) cl7 inX7 tyX7 tyX7_ok nmX7 (by decide) wf_X7_66 rfl rfl rfl rfl (Nat.le_of_ble_eq_true rfl) (fun _ _ => rfl) dX7_setEnvelope_77 ?_
            refine zv_aload_n (pc := 80) B 1 rfl dX7_setEnvelope_80 ?_
            refine zv_iload (pc := 81) B 5 rfl dX7_setEnvelope_81 ?_
            refine zs_put9 (pc := 83) (f := 19) (F := fun x9 => [.ref (b + 112), .ref (b + 113), .ref (b + 114), .ref (b + 115), .ref (b + 116), .ref (b + 117), .ref (b + 118), .ref (b + 119), .ref (b + 120), .ref (b + 121), .ref (b + 122), .ref (b + 123), .int (x9 12), .int (x9 13), .int (x9 14), .int (x9 15), .int (x9 16), .int (x9 17), .int (x9 18), .int (x9 19), .int (x9 20), .int (x9 21), .int (x9 22), .int (x9 23), .int (x9 24), .long (w 111)]) B zid (by decide) rfl (fun x => z111 x _ _) cl7 inX7 tyX7 tyX7_ok nmX7 (by decide) wf_X7_69 rfl rfl rfl rfl (Nat.le_of_ble_eq_true rfl) (fun _ _ => rfl) dX7_setEnvelope_83 ?_
            refine zv_iload (pc := 86) B 0 rfl dX7_setEnvelope_86 ?_
            have hE19 : (((m_X7_checked c 0).2) 111 18, zup (zup (zup (zup ((m_X7_checked c 0).2) 111 16 x) 111 17 y) 111 18 z) 111 19 u) = m_X7_setEnvelope c x y z u := (by unfold m_X7_setEnvelope; rw [if_neg h1, if_neg h6, if_neg h11, if_pos h16, if_pos h18])
            exact zv_iret (pc := 88) B (((m_X7_checked c 0).2) 111 18) hr (fun H hP => ⟨(), ⟨(by rw [(zp2 hE19).1]), (by rw [(zp2 hE19).2]; exact (zfr.up (zfr.up (zfr.up (zfr.up (zfr.call zfr.refl hF2017 (by omega)) (by omega)) (by omega)) (by omega)) (by omega))), (by rw [(zp2 hE19).2]; exact (zG.up (zG.up (zG.up (zG.up hg2017 (show zn _ ≤ zT9 from zn_T _)) (show zn _ ≤ zT9 from zn_T _)) (show zn _ ≤ zT9 from zn_T _)) (show zn _ ≤ zT9 from zn_T _)))⟩, (by rw [(zp2 hE19).2]; exact hP)⟩) (Nat.le_of_ble_eq_true rfl) (Nat.le_of_ble_eq_true rfl) dX7_setEnvelope_88
          · refine zv_iconst (pc := 57) (v := 0) B rfl dX7_setEnvelope_57 ?_
            have hE20 : (0, (m_X7_checked c 0).2) = m_X7_setEnvelope c x y z u := (by unfold m_X7_setEnvelope; rw [if_neg h1, if_neg h6, if_neg h11, if_pos h16, if_neg h18])
            exact zv_iret (pc := 58) B (0) hr (fun H hP => ⟨(), ⟨(by rw [(zp2 hE20).1]), (by rw [(zp2 hE20).2]; exact (zfr.call zfr.refl hF2017 (by omega))), (by rw [(zp2 hE20).2]; exact hg2017)⟩, (by rw [(zp2 hE20).2]; exact hP)⟩) (Nat.le_of_ble_eq_true rfl) (Nat.le_of_ble_eq_true rfl) dX7_setEnvelope_58
        · refine zv_iconst (pc := 46) (v := 1) B rfl dX7_setEnvelope_46 ?_
          refine zv_goto (pc := 47) (tgt := 51) B rfl dX7_setEnvelope_47 ?_
          refine zv_callV (pc := 51) (As := [.int 1]) (rest := []) B (k_X7_checked l E b _ _ _ _  1 hg) (zcwV 1 0 B wm_X7_121 wi_X7_checked wv_X7_checked wn_X7 wcode_X7_checked rfl (by decide +kernel) ⟨(Nat.le_of_ble_eq_true rfl), (Nat.le_of_ble_eq_true rfl)⟩) rfl (zrecv B (zat (by decide) (z111 _ _ _)) cl7) zid rfl (Nat.le_of_ble_eq_true rfl) dX7_setEnvelope_51 ⟨(Nat.le_of_ble_eq_true rfl), (Nat.le_of_ble_eq_true rfl)⟩ (fun v9 u9 hv9 => ?_)
          obtain ⟨rfl, hF2021, hg2021⟩ := hv9
          refine zv_st (st' := [.int ((m_X7_checked c 1).1)]) rfl ?_
          refine zv_if_le (pc := 54) (tgt := 59) B dX7_setEnvelope_54 rfl (fun h22 => ?_) (fun h22 => ?_)
          · refine zv_aload_n (pc := 59) B 0 rfl dX7_setEnvelope_59 ?_
            refine zv_get (pc := 60) (v := .int (((m_X7_checked c 1).2) 111 18)) B (zat (by decide) (z111 _ _ _)) cl7 inX7 18 (by decide) wf_X7_66 rfl dX7_setEnvelope_60 ?_
            refine zv_istore (pc := 63) (L' := [(5, .int (((m_X7_checked c 1).2) 111 18)), (0, .ref (b + 111)), (1, .int x), (2, .int y), (3, .int z), (4, .int u)]) B (by decide) rfl dX7_setEnvelope_63 ?_
            refine zv_aload_n (pc := 65) B 1 rfl dX7_setEnvelope_65 ?_
            refine zv_iload_n (pc := 66) B 2 rfl dX7_setEnvelope_66 ?_
            refine zs_put9 (pc := 67) (f := 16) (F := fun x9 => [.ref (b + 112), .ref (b + 113), .ref (b + 114), .ref (b + 115), .ref (b + 116), .ref (b + 117), .ref (b + 118), .ref (b + 119), .ref (b + 120), .ref (b + 121), .ref (b + 122), .ref (b + 123), .int (x9 12), .int (x9 13), .int (x9 14), .int (x9 15), .int (x9 16), .int (x9 17), .int (x9 18), .int (x9 19), .int (x9 20), .int (x9 21), .int (x9 22), .int (x9 23), .int (x9 24), .long (w 111)]) B zid (by decide) rfl (fun x => z111 x _ _) cl7 inX7 tyX7 tyX7_ok nmX7 (by decide) wf_X7_60 rfl rfl rfl rfl (Nat.le_of_ble_eq_true rfl) (fun _ _ => rfl) dX7_setEnvelope_67 ?_
            refine zv_aload_n (pc := 70) B 1 rfl dX7_setEnvelope_70 ?_
            refine zv_iload_n (pc := 71) B 3 rfl dX7_setEnvelope_71 ?_
            refine zs_put9 (pc := 72) (f := 17) (F := fun x9 => [.ref (b + 112), .ref (b + 113), .ref (b + 114), .ref (b + 115), .ref (b + 116), .ref (b + 117), .ref (b + 118), .ref (b + 119), .ref (b + 120), .ref (b + 121), .ref (b + 122), .ref (b + 123), .int (x9 12), .int (x9 13), .int (x9 14), .int (x9 15), .int (x9 16), .int (x9 17), .int (x9 18), .int (x9 19), .int (x9 20), .int (x9 21), .int (x9 22), .int (x9 23), .int (x9 24), .long (w 111)]) B zid (by decide) rfl (fun x => z111 x _ _) cl7 inX7 tyX7 tyX7_ok nmX7 (by decide) wf_X7_63 rfl rfl rfl rfl (Nat.le_of_ble_eq_true rfl) (fun _ _ => rfl) dX7_setEnvelope_72 ?_
            refine zv_aload_n (pc := 75) B 1 rfl dX7_setEnvelope_75 ?_
            refine zv_iload_n (pc := 76) B 4 rfl dX7_setEnvelope_76 ?_
            refine zs_put9 (pc := 77) (f := 18) (F := fun x9 => [.ref (b + 112), .ref (b + 113), .ref (b + 114), .ref (b + 115), .ref (b + 116), .ref (b + 117), .ref (b + 118), .ref (b + 119), .ref (b + 120), .ref (b + 121), .ref (b + 122), .ref (b + 123), .int (x9 12), .int (x9 13), .int (x9 14), .int (x9 15), .int (x9 16), .int (x9 17), .int (x9 18), .int (x9 19), .int (x9 20), .int (x9 21), .int (x9 22), .int (x9 23), .int (x9 24), .long (w 111)]) B zid (by decide) rfl (fun x => z111 x _ _) cl7 inX7 tyX7 tyX7_ok nmX7 (by decide) wf_X7_66 rfl rfl rfl rfl (Nat.le_of_ble_eq_true rfl) (fun _ _ => rfl) dX7_setEnvelope_77 ?_
            refine zv_aload_n (pc := 80) B 1 rfl dX7_setEnvelope_80 ?_
            refine zv_iload (pc := 81) B 5 rfl dX7_setEnvelope_81 ?_
            refine zs_put9 (pc := 83) (f := 19) (F := fun x9 => [.ref (b + 112), .ref (b + 113), .ref (b + 114), .ref (b + 115), .ref (b + 116), .ref (b + 117), .ref (b + 118), .ref (b + 119), .ref (b + 120), .ref (b + 121), .ref (b + 122), .ref (b + 123), .int (x9 12), .int (x9 13), .int (x9 14), .int (x9 15), .int (x9 16), .int (x9 17), .int (x9 18), .int (x9 19), .int (x9 20), .int (x9 21), .int (x9 22), .int (x9 23), .int (x9 24), .long (w 111)]) B zid (by decide) rfl (fun x => z111 x _ _) cl7 inX7 tyX7 tyX7_ok nmX7 (by decide) wf_X7_69 rfl rfl rfl rfl (Nat.le_of_ble_eq_true rfl) (fun _ _ => rfl) dX7_setEnvelope_83 ?_
            refine zv_iload (pc := 86) B 0 rfl dX7_setEnvelope_86 ?_
            have hE23 : (((m_X7_checked c 1).2) 111 18, zup (zup (zup (zup ((m_X7_checked c 1).2) 111 16 x) 111 17 y) 111 18 z) 111 19 u) = m_X7_setEnvelope c x y z u := (by unfold m_X7_setEnvelope; rw [if_neg h1, if_neg h6, if_neg h11, if_neg h16, if_pos h22])
            exact zv_iret (pc := 88) B (((m_X7_checked c 1).2) 111 18) hr (fun H hP => ⟨(), ⟨(by rw [(zp2 hE23).1]), (by rw [(zp2 hE23).2]; exact (zfr.up (zfr.up (zfr.up (zfr.up (zfr.call zfr.refl hF2021 (by omega)) (by omega)) (by omega)) (by omega)) (by omega))), (by rw [(zp2 hE23).2]; exact (zG.up (zG.up (zG.up (zG.up hg2021 (show zn _ ≤ zT9 from zn_T _)) (show zn _ ≤ zT9 from zn_T _)) (show zn _ ≤ zT9 from zn_T _)) (show zn _ ≤ zT9 from zn_T _)))⟩, (by rw [(zp2 hE23).2]; exact hP)⟩) (Nat.le_of_ble_eq_true rfl) (Nat.le_of_ble_eq_true rfl) dX7_setEnvelope_88
          · refine zv_iconst (pc := 57) (v := 0) B rfl dX7_setEnvelope_57 ?_
            have hE24 : (0, (m_X7_checked c 1).2) = m_X7_setEnvelope c x y z u := (by unfold m_X7_setEnvelope; rw [if_neg h1, if_neg h6, if_neg h11, if_neg h16, if_neg h22])
            exact zv_iret (pc := 58) B (0) hr (fun H hP => ⟨(), ⟨(by rw [(zp2 hE24).1]), (by rw [(zp2 hE24).2]; exact (zfr.call zfr.refl hF2021 (by omega))), (by rw [(zp2 hE24).2]; exact hg2021)⟩, (by rw [(zp2 hE24).2]; exact hP)⟩) (Nat.le_of_ble_eq_true rfl) (Nat.le_of_ble_eq_true rfl) dX7_setEnvelope_58

def m_X7_stateOf (c : Nat → Nat → Int32) (x : Int32) : Int32 × (Nat → Nat → Int32) := if ((m_X7_checked c (r_X7_isVoice x)).1) ≤ 0 then (if (m_X7_plays ((m_X7_checked c (r_X7_isVoice x)).2) (zn x)) = 0 then (102, (m_X7_checked c (r_X7_isVoice x)).2) else (if (m_X7_isReleased ((m_X7_checked c (r_X7_isVoice x)).2) (zn x)) = 0 then (if (m_X7_at ((m_X7_checked c (r_X7_isVoice x)).2) (zn x) 5) ≤ (m_X7_at ((m_X7_checked c (r_X7_isVoice x)).2) (zn x) 10) then (if ((m_X7_at ((m_X7_checked c (r_X7_isVoice x)).2) (zn x) 5) + (m_X7_at ((m_X7_checked c (r_X7_isVoice x)).2) (zn x) 6)) ≤ (m_X7_at ((m_X7_checked c (r_X7_isVoice x)).2) (zn x) 10) then (115, (m_X7_checked c (r_X7_isVoice x)).2) else (100, (m_X7_checked c (r_X7_isVoice x)).2)) else (97, (m_X7_checked c (r_X7_isVoice x)).2)) else (114, (m_X7_checked c (r_X7_isVoice x)).2))) else (97, (m_X7_checked c (r_X7_isVoice x)).2)
set_option maxRecDepth 100000 in
set_option maxHeartbeats 400000 in
theorem k_X7_stateOf (l : Launch) (E : zE) (b : Nat) (c : Nat → Nat → Int32) (w : Nat → Int64) (en : Nat → Nat) (ea : Nat → Nat → Int32) (x : Int32) (hg : zG c) : zM l yX7_stateOf (.code yX7_stateOf cX7_stateOf 3 (some .char) :: zAll) (zRm 3 0 0) E b [.ref (b + 111), .int x] (zH E b c w en ea) (fun v9 (_ : Unit) => v9 = some (.int (m_X7_stateOf c x).1) ∧ zfr 111 112 111 111 c (m_X7_stateOf c x).2 ∧ zG (m_X7_stateOf c x).2) (fun _ => zH E b ((m_X7_stateOf c x).2) w en ea) 0 0 := by
  refine zM_of "ToneGraphModel" (by decide) rfl rfl (Nat.le_of_ble_eq_true rfl) (L0 := [(0, .ref (b + 111)), (1, .int x)]) rfl ?_
  intro p e s m args below meth c9 B hr hname
  refine zv_aload_n (pc := 0) B 0 rfl dX7_stateOf_0 ?_
  refine zv_iload_n (pc := 1) B 1 rfl dX7_stateOf_1 ?_
  refine zv_callS (pc := 2) (As := [.int x]) (rest := [.ref (b + 111)]) B (k_X7_isVoice l E b x) (zcwS 1 1 B wm_X7_159 ws_X7_isVoice wn_X7 wcode_X7_isVoice (by decide +kernel) ⟨(Nat.le_of_ble_eq_true rfl), (Nat.le_of_ble_eq_true rfl)⟩) rfl zid rfl (Nat.le_of_ble_eq_true rfl) dX7_stateOf_2 ⟨(Nat.le_of_ble_eq_true rfl), (Nat.le_of_ble_eq_true rfl)⟩ (fun v9 u9 hv9 => ?_)
  subst hv9
  refine zv_st (st' := [.int (r_X7_isVoice x), .ref (b + 111)]) rfl ?_
  refine zv_callV (pc := 5) (As := [.int (r_X7_isVoice x)]) (rest := []) B (k_X7_checked l E b _ _ _ _  (r_X7_isVoice x) hg) (zcwV 1 0 B wm_X7_121 wi_X7_checked wv_X7_checked wn_X7 wcode_X7_checked rfl (by decide +kernel) ⟨(Nat.le_of_ble_eq_true rfl), (Nat.le_of_ble_eq_true rfl)⟩) rfl (zrecv B (zat (by decide) (z111 _ _ _)) cl7) zid rfl (Nat.le_of_ble_eq_true rfl) dX7_stateOf_5 ⟨(Nat.le_of_ble_eq_true rfl), (Nat.le_of_ble_eq_true rfl)⟩ (fun v9 u9 hv9 => ?_)
  obtain ⟨rfl, hF2001, hg2001⟩ := hv9
  refine zv_st (st' := [.int ((m_X7_checked c (r_X7_isVoice x)).1)]) rfl ?_
  refine zv_if_le (pc := 8) (tgt := 14) B dX7_stateOf_8 rfl (fun h2 => ?_) (fun h2 => ?_)
  · have hbx : zn x < 4 := vo_ok (ck_le h2)
    refine zv_aload_n (pc := 14) B 0 rfl dX7_stateOf_14 ?_
    refine zv_iload_n (pc := 15) B 1 rfl dX7_stateOf_15 ?_
    refine zv_st (st' := [.int (nI (zn x)), .ref (b + 111)]) (by rw [← zn_eq x]) ?_
    refine zv_callV (pc := 16) (As := [.int (nI (zn x))]) (rest := []) B (k_X7_plays l E b _ _ _ _  hbx) (zcwV 1 1 B wm_X7_135 wi_X7_plays wv_X7_plays wn_X7 wcode_X7_plays rfl (by decide +kernel) ⟨(Nat.le_of_ble_eq_true rfl), (Nat.le_of_ble_eq_true rfl)⟩) rfl (zrecv B (zat (by decide) (z111 _ _ _)) cl7) zid rfl (Nat.le_of_ble_eq_true rfl) dX7_stateOf_16 ⟨(Nat.le_of_ble_eq_true rfl), (Nat.le_of_ble_eq_true rfl)⟩ (fun v9 u9 hv9 => ?_)
    subst hv9
    refine zv_st (st' := [.int (m_X7_plays ((m_X7_checked c (r_X7_isVoice x)).2) (zn x))]) rfl ?_
    refine zv_if_ne (pc := 19) (tgt := 25) B dX7_stateOf_19 rfl (fun h3 => ?_) (fun h3 => ?_)
    · refine zv_aload_n (pc := 25) B 0 rfl dX7_stateOf_25 ?_
      refine zv_iload_n (pc := 26) B 1 rfl dX7_stateOf_26 ?_
      refine zv_bipush (pc := 27) (v := 10) B rfl dX7_stateOf_27 ?_
      refine zv_st (st' := [.int (nI 10), .int (nI (zn x)), .ref (b + 111)]) (by rw [← zn_eq x]; rfl) ?_
      refine zv_callV (pc := 29) (As := [.int (nI (zn x)), .int (nI 10)]) (rest := []) B (k_X7_at (k := 10) l E b _ _ _ _  hbx (by decide)) (zcwV 2 0 B wm_X7_132 wi_X7_at wv_X7_at wn_X7 wcode_X7_at rfl (by decide +kernel) ⟨(Nat.le_of_ble_eq_true rfl), (Nat.le_of_ble_eq_true rfl)⟩) rfl (zrecv B (zat (by decide) (z111 _ _ _)) cl7) zid rfl (Nat.le_of_ble_eq_true rfl) dX7_stateOf_29 ⟨(Nat.le_of_ble_eq_true rfl), (Nat.le_of_ble_eq_true rfl)⟩ (fun v9 u9 hv9 => ?_)
      subst hv9
      refine zv_st (st' := [.int (m_X7_at ((m_X7_checked c (r_X7_isVoice x)).2) (zn x) 10)]) rfl ?_
      refine zv_istore_n (pc := 32) (L' := [(2, .int (m_X7_at ((m_X7_checked c (r_X7_isVoice x)).2) (zn x) 10)), (0, .ref (b + 111)), (1, .int x)]) B (by decide) rfl dX7_stateOf_32 ?_
      refine zv_aload_n (pc := 33) B 1 rfl dX7_stateOf_33 ?_
      refine zv_iload_n (pc := 34) B 2 rfl dX7_stateOf_34 ?_
      refine zv_st (st' := [.int (nI (zn x)), .ref (b + 111)]) (by rw [← zn_eq x]) ?_
      refine zv_callV (pc := 35) (As := [.int (nI (zn x))]) (rest := []) B (k_X7_isReleased l E b _ _ _ _  hbx) (zcwV 1 2 B wm_X7_138 wi_X7_isReleased wv_X7_isReleased wn_X7 wcode_X7_isReleased rfl (by decide +kernel) ⟨(Nat.le_of_ble_eq_true rfl), (Nat.le_of_ble_eq_true rfl)⟩) rfl (zrecv B (zat (by decide) (z111 _ _ _)) cl7) zid rfl (Nat.le_of_ble_eq_true rfl) dX7_stateOf_35 ⟨(Nat.le_of_ble_eq_true rfl), (Nat.le_of_ble_eq_true rfl)⟩ (fun v9 u9 hv9 => ?_)
      subst hv9
      refine zv_st (st' := [.int (m_X7_isReleased ((m_X7_checked c (r_X7_isVoice x)).2) (zn x))]) rfl ?_
      refine zv_if_eq (pc := 38) (tgt := 46) B dX7_stateOf_38 rfl (fun h4 => ?_) (fun h4 => ?_)
      · refine zv_iload_n (pc := 46) B 0 rfl dX7_stateOf_46 ?_
        refine zv_aload_n (pc := 47) B 1 rfl dX7_stateOf_47 ?_
        refine zv_iload_n (pc := 48) B 2 rfl dX7_stateOf_48 ?_
        refine zv_iconst (pc := 49) (v := 5) B rfl dX7_stateOf_49 ?_
        refine zv_st (st' := [.int (nI 5), .int (nI (zn x)), .ref (b + 111), .int (m_X7_at ((m_X7_checked c (r_X7_isVoice x)).2) (zn x) 10)]) (by rw [← zn_eq x]; rfl) ?_
        refine zv_callV (pc := 50) (As := [.int (nI (zn x)), .int (nI 5)]) (rest := [.int (m_X7_at ((m_X7_checked c (r_X7_isVoice x)).2) (zn x) 10)]) B (k_X7_at (k := 5) l E b _ _ _ _  hbx (by decide)) (zcwV 2 0 B wm_X7_132 wi_X7_at wv_X7_at wn_X7 wcode_X7_at rfl (by decide +kernel) ⟨(Nat.le_of_ble_eq_true rfl), (Nat.le_of_ble_eq_true rfl)⟩) rfl (zrecv B (zat (by decide) (z111 _ _ _)) cl7) zid rfl (Nat.le_of_ble_eq_true rfl) dX7_stateOf_50 ⟨(Nat.le_of_ble_eq_true rfl), (Nat.le_of_ble_eq_true rfl)⟩ (fun v9 u9 hv9 => ?_)
        subst hv9
        refine zv_st (st' := [.int (m_X7_at ((m_X7_checked c (r_X7_isVoice x)).2) (zn x) 5), .int (m_X7_at ((m_X7_checked c (r_X7_isVoice x)).2) (zn x) 10)]) rfl ?_
        refine zv_icmp_ge (pc := 53) (tgt := 61) B dX7_stateOf_53 rfl (fun h5 => ?_) (fun h5 => ?_)
        · refine zv_iload_n (pc := 61) B 0 rfl dX7_stateOf_61 ?_
          refine zv_aload_n (pc := 62) B 1 rfl dX7_stateOf_62 ?_
          refine zv_iload_n (pc := 63) B 2 rfl dX7_stateOf_63 ?_
          refine zv_iconst (pc := 64) (v := 5) B rfl dX7_stateOf_64 ?_
          refine zv_st (st' := [.int (nI 5), .int (nI (zn x)), .ref (b + 111), .int (m_X7_at ((m_X7_checked c (r_X7_isVoice x)).2) (zn x) 10)]) (by rw [← zn_eq x]; rfl) ?_
          refine zv_callV (pc := 65) (As := [.int (nI (zn x)), .int (nI 5)]) (rest := [.int (m_X7_at ((m_X7_checked c (r_X7_isVoice x)).2) (zn x) 10)]) B (k_X7_at (k := 5) l E b _ _ _ _  hbx (by decide)) (zcwV 2 0 B wm_X7_132 wi_X7_at wv_X7_at wn_X7 wcode_X7_at rfl (by decide +kernel) ⟨(Nat.le_of_ble_eq_true rfl), (Nat.le_of_ble_eq_true rfl)⟩) rfl (zrecv B (zat (by decide) (z111 _ _ _)) cl7) zid rfl (Nat.le_of_ble_eq_true rfl) dX7_stateOf_65 ⟨(Nat.le_of_ble_eq_true rfl), (Nat.le_of_ble_eq_true rfl)⟩ (fun v9 u9 hv9 => ?_)
          subst hv9
          refine zv_st (st' := [.int (m_X7_at ((m_X7_checked c (r_X7_isVoice x)).2) (zn x) 5), .int (m_X7_at ((m_X7_checked c (r_X7_isVoice x)).2) (zn x) 10)]) rfl ?_
          refine zv_aload_n (pc := 68) B 1 rfl dX7_stateOf_68 ?_
          refine zv_iload_n (pc := 69) B 2 rfl dX7_stateOf_69 ?_
          refine zv_bipush (pc := 70) (v := 6) B rfl dX7_stateOf_70 ?_
          refine zv_st (st' := [.int (nI 6), .int (nI (zn x)), .ref (b + 111), .int (m_X7_at ((m_X7_checked c (r_X7_isVoice x)).2) (zn x) 5), .int (m_X7_at ((m_X7_checked c (r_X7_isVoice x)).2) (zn x) 10)]) (by rw [← zn_eq x]; rfl) ?_
          refine zv_callV (pc := 72) (As := [.int (nI (zn x)), .int (nI 6)]) (rest := [.int (m_X7_at ((m_X7_checked c (r_X7_isVoice x)).2) (zn x) 5), .int (m_X7_at ((m_X7_checked c (r_X7_isVoice x)).2) (zn x) 10)]) B (k_X7_at (k := 6) l E b _ _ _ _  hbx (by decide)) (zcwV 2 0 B wm_X7_132 wi_X7_at wv_X7_at wn_X7 wcode_X7_at rfl (by decide +kernel) ⟨(Nat.le_of_ble_eq_true rfl), (Nat.le_of_ble_eq_true rfl)⟩) rfl (zrecv B (zat (by decide) (z111 _ _ _)) cl7) zid rfl (Nat.le_of_ble_eq_true rfl) dX7_stateOf_72 ⟨(Nat.le_of_ble_eq_true rfl), (Nat.le_of_ble_eq_true rfl)⟩ (fun v9 u9 hv9 => ?_)
          subst hv9
          refine zv_st (st' := [.int (m_X7_at ((m_X7_checked c (r_X7_isVoice x)).2) (zn x) 6), .int (m_X7_at ((m_X7_checked c (r_X7_isVoice x)).2) (zn x) 5), .int (m_X7_at ((m_X7_checked c (r_X7_isVoice x)).2) (zn x) 10)]) rfl ?_
          refine zv_iadd (pc := 75) B dX7_stateOf_75 ?_
          refine zv_icmp_ge (pc := 76) (tgt := 84) B dX7_stateOf_76 rfl (fun h6 => ?_) (fun h6 => ?_)
          · refine zv_bipush (pc := 84) (v := 115) B rfl dX7_stateOf_84 ?_
            have hE7 : (115, (m_X7_checked c (r_X7_isVoice x)).2) = m_X7_stateOf c x := (by unfold m_X7_stateOf; rw [if_pos h2, if_neg h3, if_pos h4, if_pos h5, if_pos h6])
            exact zv_zret (pc := 86) B (115) rfl hr (fun H hP => ⟨(), ⟨(by rw [(zp2 hE7).1]), (by rw [(zp2 hE7).2]; exact (zfr.call zfr.refl hF2001 (by omega))), (by rw [(zp2 hE7).2]; exact hg2001)⟩, (by rw [(zp2 hE7).2]; exact hP)⟩) (Nat.le_of_ble_eq_true rfl) (Nat.le_of_ble_eq_true rfl) dX7_stateOf_86
          · refine zv_bipush (pc := 79) (v := 100) B rfl dX7_stateOf_79 ?_
            refine zv_goto (pc := 81) (tgt := 86) B rfl dX7_stateOf_81 ?_
            have hE8 : (100, (m_X7_checked c (r_X7_isVoice x)).2) = m_X7_stateOf c x := (by unfold m_X7_stateOf; rw [if_pos h2, if_neg h3, if_pos h4, if_pos h5, if_neg h6])
            exact zv_zret (pc := 86) B (100) rfl hr (fun H hP => ⟨(), ⟨(by rw [(zp2 hE8).1]), (by rw [(zp2 hE8).2]; exact (zfr.call zfr.refl hF2001 (by omega))), (by rw [(zp2 hE8).2]; exact hg2001)⟩, (by rw [(zp2 hE8).2]; exact hP)⟩) (Nat.le_of_ble_eq_true rfl) (Nat.le_of_ble_eq_true rfl) dX7_stateOf_86
        · refine zv_bipush (pc := 56) (v := 97) B rfl dX7_stateOf_56 ?_
          refine zv_goto (pc := 58) (tgt := 86) B rfl dX7_stateOf_58 ?_
          have hE9 : (97, (m_X7_checked c (r_X7_isVoice x)).2) = m_X7_stateOf c x := (by unfold m_X7_stateOf; rw [if_pos h2, if_neg h3, if_pos h4, if_neg h5])
          exact zv_zret (pc := 86) B (97) rfl hr (fun H hP => ⟨(), ⟨(by rw [(zp2 hE9).1]), (by rw [(zp2 hE9).2]; exact (zfr.call zfr.refl hF2001 (by omega))), (by rw [(zp2 hE9).2]; exact hg2001)⟩, (by rw [(zp2 hE9).2]; exact hP)⟩) (Nat.le_of_ble_eq_true rfl) (Nat.le_of_ble_eq_true rfl) dX7_stateOf_86
      · refine zv_bipush (pc := 41) (v := 114) B rfl dX7_stateOf_41 ?_
        refine zv_goto (pc := 43) (tgt := 86) B rfl dX7_stateOf_43 ?_
        have hE10 : (114, (m_X7_checked c (r_X7_isVoice x)).2) = m_X7_stateOf c x := (by unfold m_X7_stateOf; rw [if_pos h2, if_neg h3, if_neg h4])
        exact zv_zret (pc := 86) B (114) rfl hr (fun H hP => ⟨(), ⟨(by rw [(zp2 hE10).1]), (by rw [(zp2 hE10).2]; exact (zfr.call zfr.refl hF2001 (by omega))), (by rw [(zp2 hE10).2]; exact hg2001)⟩, (by rw [(zp2 hE10).2]; exact hP)⟩) (Nat.le_of_ble_eq_true rfl) (Nat.le_of_ble_eq_true rfl) dX7_stateOf_86
    · refine zv_bipush (pc := 22) (v := 102) B rfl dX7_stateOf_22 ?_
      have hE11 : (102, (m_X7_checked c (r_X7_isVoice x)).2) = m_X7_stateOf c x := (by unfold m_X7_stateOf; rw [if_pos h2, if_pos h3])
      exact zv_zret (pc := 24) B (102) rfl hr (fun H hP => ⟨(), ⟨(by rw [(zp2 hE11).1]), (by rw [(zp2 hE11).2]; exact (zfr.call zfr.refl hF2001 (by omega))), (by rw [(zp2 hE11).2]; exact hg2001)⟩, (by rw [(zp2 hE11).2]; exact hP)⟩) (Nat.le_of_ble_eq_true rfl) (Nat.le_of_ble_eq_true rfl) dX7_stateOf_24
  · refine zv_bipush (pc := 11) (v := 97) B rfl dX7_stateOf_11 ?_
    have hE12 : (97, (m_X7_checked c (r_X7_isVoice x)).2) = m_X7_stateOf c x := (by unfold m_X7_stateOf; rw [if_neg h2])
    exact zv_zret (pc := 13) B (97) rfl hr (fun H hP => ⟨(), ⟨(by rw [(zp2 hE12).1]), (by rw [(zp2 hE12).2]; exact (zfr.call zfr.refl hF2001 (by omega))), (by rw [(zp2 hE12).2]; exact hg2001)⟩, (by rw [(zp2 hE12).2]; exact hP)⟩) (Nat.le_of_ble_eq_true rfl) (Nat.le_of_ble_eq_true rfl) dX7_stateOf_13

def m_X7_releases (c : Nat → Nat → Int32) (v : Nat) : (Nat → Nat → Int32) := if (m_X7_at (zup (m_X7_lay (m_X7_lay (m_X7_lay (m_X7_lay c v 1 1) v 11 (m_X7_levelAt c v)) v 12 0) v 14 (c 111 21)) 111 21 ((c 111 21) + 1)) v 8) = 0 then (m_X7_lay (zup (m_X7_lay (m_X7_lay (m_X7_lay (m_X7_lay c v 1 1) v 11 (m_X7_levelAt c v)) v 12 0) v 14 (c 111 21)) 111 21 ((c 111 21) + 1)) v 0 0) else (zup (m_X7_lay (m_X7_lay (m_X7_lay (m_X7_lay c v 1 1) v 11 (m_X7_levelAt c v)) v 12 0) v 14 (c 111 21)) 111 21 ((c 111 21) + 1))
set_option maxRecDepth 100000 in
set_option maxHeartbeats 400000 in
theorem k_X7_releases (l : Launch) (E : zE) (b : Nat) (c : Nat → Nat → Int32) (w : Nat → Int64) (en : Nat → Nat) (ea : Nat → Nat → Int32) {v : Nat} (hv : v < 4) (hz1 : ¬ m_X7_isReleased c v = 0 → ¬ m_X7_at c v 8 = 0) (hz2 : ¬ m_X7_at c v 5 ≤ m_X7_at c v 10 → ¬ m_X7_at c v 5 = 0) (hz3 : m_X7_at c v 5 ≤ m_X7_at c v 10 → ¬ m_X7_at c v 6 ≤ m_X7_at c v 10 - m_X7_at c v 5 → ¬ m_X7_at c v 6 = 0) (hg : zG c) : zM l yX7_releases (.code yX7_releases cX7_releases 3 none :: zAll) (zRm 4 0 0) E b [.ref (b + 111), .int (nI v)] (zH E b c w en ea) (fun v9 (_ : Unit) => v9 = none ∧ zfr 111 113 111 111 c (m_X7_releases c v) ∧ zG (m_X7_releases c v)) (fun _ => zH E b (m_X7_releases c v) w en ea) 0 0 := by
  refine zM_of "ToneGraphModel" (by decide) rfl rfl (Nat.le_of_ble_eq_true rfl) (L0 := [(0, .ref (b + 111)), (1, .int (nI v))]) rfl ?_
  intro p e s m args below meth c9 B hr hname
  refine zv_aload_n (pc := 0) B 0 rfl dX7_releases_0 ?_
  refine zv_iload_n (pc := 1) B 1 rfl dX7_releases_1 ?_
  refine zv_callV (pc := 2) (As := [.int (nI v)]) (rest := []) B (k_X7_levelAt l E b _ _ _ _  hv hz1 hz2 hz3) (zcwV 1 3 B wm_X7_149 wi_X7_levelAt wv_X7_levelAt wn_X7 wcode_X7_levelAt rfl (by decide +kernel) ⟨(Nat.le_of_ble_eq_true rfl), (Nat.le_of_ble_eq_true rfl)⟩) rfl (zrecv B (zat (by decide) (z111 _ _ _)) cl7) zid rfl (Nat.le_of_ble_eq_true rfl) dX7_releases_2 ⟨(Nat.le_of_ble_eq_true rfl), (Nat.le_of_ble_eq_true rfl)⟩ (fun v9 u9 hv9 => ?_)
  subst hv9
  refine zv_st (st' := [.int (m_X7_levelAt c v)]) rfl ?_
  refine zv_istore_n (pc := 5) (L' := [(2, .int (m_X7_levelAt c v)), (0, .ref (b + 111)), (1, .int (nI v))]) B (by decide) rfl dX7_releases_5 ?_
  refine zv_aload_n (pc := 6) B 1 rfl dX7_releases_6 ?_
  refine zv_iload_n (pc := 7) B 2 rfl dX7_releases_7 ?_
  refine zv_iconst (pc := 8) (v := 1) B rfl dX7_releases_8 ?_
  refine zv_iconst (pc := 9) (v := 1) B rfl dX7_releases_9 ?_
  refine zv_st (st' := [.int 1, .int (nI 1), .int (nI v), .ref (b + 111)]) rfl ?_
  refine zv_callV (pc := 10) (As := [.int (nI v), .int (nI 1), .int 1]) (rest := []) B (k_X7_lay (k := 1) l E b _ _ _ _  hv (by decide) 1 hg) (zcwV 3 0 B wm_X7_145 wi_X7_lay wv_X7_lay wn_X7 wcode_X7_lay rfl (by decide +kernel) ⟨(Nat.le_of_ble_eq_true rfl), (Nat.le_of_ble_eq_true rfl)⟩) rfl (zrecv B (zat (by decide) (z111 _ _ _)) cl7) zid rfl (Nat.le_of_ble_eq_true rfl) dX7_releases_10 ⟨(Nat.le_of_ble_eq_true rfl), (Nat.le_of_ble_eq_true rfl)⟩ (fun v9 u9 hv9 => ?_)
  obtain ⟨rfl, hF2001, hg2001⟩ := hv9
  refine zv_st (st' := []) rfl ?_
  refine zv_aload_n (pc := 13) B 1 rfl dX7_releases_13 ?_
  refine zv_iload_n (pc := 14) B 2 rfl dX7_releases_14 ?_
  refine zv_bipush (pc := 15) (v := 11) B rfl dX7_releases_15 ?_
  refine zv_iload_n (pc := 17) B 0 rfl dX7_releases_17 ?_
  refine zv_st (st' := [.int (m_X7_levelAt c v), .int (nI 11), .int (nI v), .ref (b + 111)]) rfl ?_
  refine zv_callV (pc := 18) (As := [.int (nI v), .int (nI 11), .int (m_X7_levelAt c v)]) (rest := []) B (k_X7_lay (k := 11) l E b _ _ _ _  hv (by decide) (m_X7_levelAt c v) hg2001) (zcwV 3 0 B wm_X7_145 wi_X7_lay wv_X7_lay wn_X7 wcode_X7_lay rfl (by decide +kernel) ⟨(Nat.le_of_ble_eq_true rfl), (Nat.le_of_ble_eq_true rfl)⟩) rfl (zrecv B (zat (by decide) (z111 _ _ _)) cl7) zid rfl (Nat.le_of_ble_eq_true rfl) dX7_releases_18 ⟨(Nat.le_of_ble_eq_true rfl), (Nat.le_of_ble_eq_true rfl)⟩ (fun v9 u9 hv9 => ?_)
  obtain ⟨rfl, hF2002, hg2002⟩ := hv9
  refine zv_st (st' := []) rfl ?_
  refine zv_aload_n (pc := 21) B 1 rfl dX7_releases_21 ?_
  refine zv_iload_n (pc := 22) B 2 rfl dX7_releases_22 ?_
  refine zv_bipush (pc := 23) (v := 12) B rfl dX7_releases_23 ?_
  refine zv_iconst (pc := 25) (v := 0) B rfl dX7_releases_25 ?_
  refine zv_st (st' := [.int 0, .int (nI 12), .int (nI v), .ref (b + 111)]) rfl ?_
  refine zv_callV (pc := 26) (As := [.int (nI v), .int (nI 12), .int 0]) (rest := []) B (k_X7_lay (k := 12) l E b _ _ _ _  hv (by decide) 0 hg2002) (zcwV 3 0 B wm_X7_145 wi_X7_lay wv_X7_lay wn_X7 wcode_X7_lay rfl (by decide +kernel) ⟨(Nat.le_of_ble_eq_true rfl), (Nat.le_of_ble_eq_true rfl)⟩) rfl (zrecv B (zat (by decide) (z111 _ _ _)) cl7) zid rfl (Nat.le_of_ble_eq_true rfl) dX7_releases_26 ⟨(Nat.le_of_ble_eq_true rfl), (Nat.le_of_ble_eq_true rfl)⟩ (fun v9 u9 hv9 => ?_)
  obtain ⟨rfl, hF2003, hg2003⟩ := hv9
  refine zv_st (st' := []) rfl ?_
  refine zv_aload_n (pc := 29) B 1 rfl dX7_releases_29 ?_
  refine zv_iload_n (pc := 30) B 2 rfl dX7_releases_30 ?_
  refine zv_bipush (pc := 31) (v := 14) B rfl dX7_releases_31 ?_
  refine zv_aload_n (pc := 33) B 1 rfl dX7_releases_33 ?_
  refine zv_get (pc := 34) (v := .int ((m_X7_lay (m_X7_lay (m_X7_lay c v 1 1) v 11 (m_X7_levelAt c v)) v 12 0) 111 21)) B (zat (by decide) (z111 _ _ _)) cl7 inX7 21 (by decide) wf_X7_75 rfl dX7_releases_34 ?_
  refine zv_topi (y := c 111 21) (by rw [hF2003 111 (by omega), hF2002 111 (by omega), hF2001 111 (by omega)]) ?_
  refine zv_st (st' := [.int (c 111 21), .int (nI 14), .int (nI v), .ref (b + 111)]) rfl ?_
  refine zv_callV (pc := 37) (As := [.int (nI v), .int (nI 14), .int (c 111 21)]) (rest := []) B (k_X7_lay (k := 14) l E b _ _ _ _  hv (by decide) (c 111 21) hg2003) (zcwV 3 0 B wm_X7_145 wi_X7_lay wv_X7_lay wn_X7 wcode_X7_lay rfl (by decide +kernel) ⟨(Nat.le_of_ble_eq_true rfl), (Nat.le_of_ble_eq_true rfl)⟩) rfl (zrecv B (zat (by decide) (z111 _ _ _)) cl7) zid rfl (Nat.le_of_ble_eq_true rfl) dX7_releases_37 ⟨(Nat.le_of_ble_eq_true rfl), (Nat.le_of_ble_eq_true rfl)⟩ (fun v9 u9 hv9 => ?_)
  obtain ⟨rfl, hF2004, hg2004⟩ := hv9
  refine zv_st (st' := []) rfl ?_
  refine zv_aload_n (pc := 40) B 1 rfl dX7_releases_40 ?_
  refine zv_dup (pc := 41) B rfl dX7_releases_41 ?_
  refine zv_get (pc := 42) (v := .int ((m_X7_lay (m_X7_lay (m_X7_lay (m_X7_lay c v 1 1) v 11 (m_X7_levelAt c v)) v 12 0) v 14 (c 111 21)) 111 21)) B (zat (by decide) (z111 _ _ _)) cl7 inX7 21 (by decide) wf_X7_75 rfl dX7_releases_42 ?_
  refine zv_topi (y := c 111 21) (by rw [hF2004 111 (by omega), hF2003 111 (by omega), hF2002 111 (by omega), hF2001 111 (by omega)]) ?_
  refine zv_iconst (pc := 45) (v := 1) B rfl dX7_releases_45 ?_
  refine zv_iadd (pc := 46) B dX7_releases_46 ?_
  refine zs_put9 (pc := 47) (f := 21) (F := fun x9 => [.ref (b + 112), .ref (b + 113), .ref (b + 114), .ref (b + 115), .ref (b + 116), .ref (b + 117), .ref (b + 118), .ref (b + 119), .ref (b + 120), .ref (b + 121), .ref (b + 122), .ref (b + 123), .int (x9 12), .int (x9 13), .int (x9 14), .int (x9 15), .int (x9 16), .int (x9 17), .int (x9 18), .int (x9 19), .int (x9 20), .int (x9 21), .int (x9 22), .int (x9 23), .int (x9 24), .long (w 111)]) B zid (by decide) rfl (fun x => z111 x _ _) cl7 inX7 tyX7 tyX7_ok nmX7 (by decide) wf_X7_75 rfl rfl rfl rfl (Nat.le_of_ble_eq_true rfl) (fun _ _ => rfl) dX7_releases_47 ?_
  refine zv_aload_n (pc := 50) B 1 rfl dX7_releases_50 ?_
  refine zv_iload_n (pc := 51) B 2 rfl dX7_releases_51 ?_
  refine zv_bipush (pc := 52) (v := 8) B rfl dX7_releases_52 ?_
  refine zv_st (st' := [.int (nI 8), .int (nI v), .ref (b + 111)]) rfl ?_
  refine zv_callV (pc := 54) (As := [.int (nI v), .int (nI 8)]) (rest := []) B (k_X7_at (k := 8) l E b _ _ _ _  hv (by decide)) (zcwV 2 0 B wm_X7_132 wi_X7_at wv_X7_at wn_X7 wcode_X7_at rfl (by decide +kernel) ⟨(Nat.le_of_ble_eq_true rfl), (Nat.le_of_ble_eq_true rfl)⟩) rfl (zrecv B (zat (by decide) (z111 _ _ _)) cl7) zid rfl (Nat.le_of_ble_eq_true rfl) dX7_releases_54 ⟨(Nat.le_of_ble_eq_true rfl), (Nat.le_of_ble_eq_true rfl)⟩ (fun v9 u9 hv9 => ?_)
  subst hv9
  refine zv_st (st' := [.int (m_X7_at (zup (m_X7_lay (m_X7_lay (m_X7_lay (m_X7_lay c v 1 1) v 11 (m_X7_levelAt c v)) v 12 0) v 14 (c 111 21)) 111 21 ((c 111 21) + 1)) v 8)]) rfl ?_
  refine zv_if_ne (pc := 57) (tgt := 67) B dX7_releases_57 rfl (fun h5 => ?_) (fun h5 => ?_)
  · have hE6 : zup (m_X7_lay (m_X7_lay (m_X7_lay (m_X7_lay c v 1 1) v 11 (m_X7_levelAt c v)) v 12 0) v 14 (c 111 21)) 111 21 ((c 111 21) + 1) = m_X7_releases c v := (by unfold m_X7_releases; rw [if_neg h5])
    exact zv_vret (pc := 67) B hr (fun H hP => ⟨(), ⟨rfl, Eq.subst (motive := fun z => zfr 111 113 111 111 c z) hE6 (zfr.up (zfr.call (zfr.call (zfr.call (zfr.call zfr.refl hF2001 (by omega)) hF2002 (by omega)) hF2003 (by omega)) hF2004 (by omega)) (by omega)), Eq.subst (motive := fun z => zG z) hE6 (zG.up hg2004 (show zn _ ≤ zT9 from zn_T _))⟩, Eq.subst (motive := fun z => zH E b z w en ea H) hE6 hP⟩) (Nat.le_of_ble_eq_true rfl) (Nat.le_of_ble_eq_true rfl) dX7_releases_67
  · refine zv_aload_n (pc := 60) B 1 rfl dX7_releases_60 ?_
    refine zv_iload_n (pc := 61) B 2 rfl dX7_releases_61 ?_
    refine zv_iconst (pc := 62) (v := 0) B rfl dX7_releases_62 ?_
    refine zv_iconst (pc := 63) (v := 0) B rfl dX7_releases_63 ?_
    refine zv_st (st' := [.int 0, .int (nI 0), .int (nI v), .ref (b + 111)]) rfl ?_
    refine zv_callV (pc := 64) (As := [.int (nI v), .int (nI 0), .int 0]) (rest := []) B (k_X7_lay (k := 0) l E b _ _ _ _  hv (by decide) 0 (zG.up hg2004 (show zn _ ≤ zT9 from zn_T _))) (zcwV 3 0 B wm_X7_145 wi_X7_lay wv_X7_lay wn_X7 wcode_X7_lay rfl (by decide +kernel) ⟨(Nat.le_of_ble_eq_true rfl), (Nat.le_of_ble_eq_true rfl)⟩) rfl (zrecv B (zat (by decide) (z111 _ _ _)) cl7) zid rfl (Nat.le_of_ble_eq_true rfl) dX7_releases_64 ⟨(Nat.le_of_ble_eq_true rfl), (Nat.le_of_ble_eq_true rfl)⟩ (fun v9 u9 hv9 => ?_)
    obtain ⟨rfl, hF2007, hg2007⟩ := hv9
    refine zv_st (st' := []) rfl ?_
    have hE8 : (m_X7_lay (zup (m_X7_lay (m_X7_lay (m_X7_lay (m_X7_lay c v 1 1) v 11 (m_X7_levelAt c v)) v 12 0) v 14 (c 111 21)) 111 21 ((c 111 21) + 1)) v 0 0) = m_X7_releases c v := (by unfold m_X7_releases; rw [if_pos h5])
    exact zv_vret (pc := 67) B hr (fun H hP => ⟨(), ⟨rfl, Eq.subst (motive := fun z => zfr 111 113 111 111 c z) hE8 (zfr.call (zfr.up (zfr.call (zfr.call (zfr.call (zfr.call zfr.refl hF2001 (by omega)) hF2002 (by omega)) hF2003 (by omega)) hF2004 (by omega)) (by omega)) hF2007 (by omega)), Eq.subst (motive := fun z => zG z) hE8 hg2007⟩, Eq.subst (motive := fun z => zH E b z w en ea H) hE8 hP⟩) (Nat.le_of_ble_eq_true rfl) (Nat.le_of_ble_eq_true rfl) dX7_releases_67

def g3_X7_voiceFor (c : Nat → Nat → Int32)  : Nat → Nat → Nat → (Nat → Nat → Int32) → Int32
  | 0, k, y, K => K k y
  | n + 1, k, y, K => if (m_X7_at c y 13) ≤ (m_X7_at c k 13) then (g3_X7_voiceFor c n (k + 1) y K) else (g3_X7_voiceFor c n (k + 1) k K)
def g2_X7_voiceFor (c : Nat → Nat → Int32)  : Nat → Nat → Int32 → (Nat → Int32 → Int32) → Int32
  | 0, j, x, K => K j x
  | n + 1, j, x, K => if (m_X7_isReleased c j) = 0 then (g2_X7_voiceFor c n (j + 1) x K) else (if x < 0 then (g2_X7_voiceFor c n (j + 1) (nI j) K) else (if (m_X7_at c (zn x) 14) ≤ (m_X7_at c j 14) then (g2_X7_voiceFor c n (j + 1) x K) else (g2_X7_voiceFor c n (j + 1) (nI j) K)))
def g1_X7_voiceFor (c : Nat → Nat → Int32)  : Nat → Nat → (Nat → Int32) → Int32
  | 0, i, K => K i
  | n + 1, i, K => if (m_X7_plays c i) = 0 then (nI i) else (g1_X7_voiceFor c n (i + 1) K)
def m_X7_voiceFor (c : Nat → Nat → Int32) : Int32 := g1_X7_voiceFor c 4 0 (fun i => g2_X7_voiceFor c 4 0 (-1) (fun j x => if x < 0 then (g3_X7_voiceFor c 3 1 0 (fun k y => nI y)) else x))
set_option maxRecDepth 100000 in
set_option maxHeartbeats 400000 in
theorem k_X7_voiceFor (l : Launch) (E : zE) (b : Nat) (c : Nat → Nat → Int32) (w : Nat → Int64) (en : Nat → Nat) (ea : Nat → Nat → Int32)  : zM l yX7_voiceFor (.code yX7_voiceFor cX7_voiceFor 3 (some .int) :: zAll) (zRm 3 0 0) E b [.ref (b + 111)] (zH E b c w en ea) (fun v9 (_ : Unit) => v9 = some (.int (m_X7_voiceFor c))) (fun _ => zH E b c w en ea) 0 0 := by
  refine zM_of "ToneGraphModel" (by decide) rfl rfl (Nat.le_of_ble_eq_true rfl) (L0 := [(0, .ref (b + 111))]) rfl ?_
  intro p e s m args below meth c9 B hr hname
  refine zv_iconst (pc := 0) (v := 0) B rfl dX7_voiceFor_0 ?_
  refine zv_istore_n (pc := 1) (L' := [(1, .int 0), (0, .ref (b + 111))]) B (by decide) rfl dX7_voiceFor_1 ?_
  have loop1 : ∀ (K : Nat → Int32) (n : Nat) (i : Nat), i + n = 4 → g1_X7_voiceFor c n i K = m_X7_voiceFor c → (∀ (i : Nat), i ≤ 4 → K i = m_X7_voiceFor c → zV p l e (zRm 3 0 0) s m args below meth c9 (MQ below (zQ b (fun v9 (_ : Unit) => v9 = some (.int (m_X7_voiceFor c))) (fun _ => zH E b c w en ea)) args s 0 0 (zA b)) 3 b (zH E b c w en ea) 23 [(0, .ref (b + 111)), (1, .int (nI i))] [] 0 0) → zV p l e (zRm 3 0 0) s m args below meth c9 (MQ below (zQ b (fun v9 (_ : Unit) => v9 = some (.int (m_X7_voiceFor c))) (fun _ => zH E b c w en ea)) args s 0 0 (zA b)) 3 b (zH E b c w en ea) 2 [(0, .ref (b + 111)), (1, .int (nI i))] [] 0 0 := by
    intro K n
    induction n with
    | zero =>
      intro i hi hE901 hK
      refine zv_iload_n (pc := 2) B 1 rfl dX7_voiceFor_2 ?_
      refine zv_iconst (pc := 3) (v := 4) B rfl dX7_voiceFor_3 ?_
      refine zv_icmp_ge (pc := 4) (tgt := 23) B dX7_voiceFor_4 rfl (fun _ => ?_) (fun h9 => absurd ((z_le (a := 4) (b := i) rfl rfl (by omega) (by omega)).mpr (by omega)) h9)
      exact hK i  (by omega) (Eq.trans (by rw [g1_X7_voiceFor]) hE901)
    | succ n ih =>
      intro i hi hE901 hK
      refine zv_iload_n (pc := 2) B 1 rfl dX7_voiceFor_2 ?_
      refine zv_iconst (pc := 3) (v := 4) B rfl dX7_voiceFor_3 ?_
      refine zv_icmp_ge (pc := 4) (tgt := 23) B dX7_voiceFor_4 rfl (fun h9 => absurd h9 (fun q9 => absurd ((z_le (a := 4) (b := i) rfl rfl (by omega) (by omega)).mp q9) (by omega))) (fun _ => ?_)
      refine zv_aload_n (pc := 7) B 0 rfl dX7_voiceFor_7 ?_
      refine zv_iload_n (pc := 8) B 1 rfl dX7_voiceFor_8 ?_
      refine zv_callV (pc := 9) (As := [.int (nI i)]) (rest := []) B (k_X7_plays l E b _ _ _ _  (by omega)) (zcwV 1 1 B wm_X7_135 wi_X7_plays wv_X7_plays wn_X7 wcode_X7_plays rfl (by decide +kernel) ⟨(Nat.le_of_ble_eq_true rfl), (Nat.le_of_ble_eq_true rfl)⟩) rfl (zrecv B (zat (by decide) (z111 _ _ _)) cl7) zid rfl (Nat.le_of_ble_eq_true rfl) dX7_voiceFor_9 ⟨(Nat.le_of_ble_eq_true rfl), (Nat.le_of_ble_eq_true rfl)⟩ (fun v9 u9 hv9 => ?_)
      subst hv9
      refine zv_st (st' := [.int (m_X7_plays c i)]) rfl ?_
      refine zv_if_ne (pc := 12) (tgt := 17) B dX7_voiceFor_12 rfl (fun h3 => ?_) (fun h3 => ?_)
      · refine zv_iinc (pc := 17) (v := nI (i + 1)) (L' := [(1, .int (nI (i + 1))), (0, .ref (b + 111))]) B 1 rfl (nI_1 _) (by decide) rfl dX7_voiceFor_17 ?_
        refine zv_goto (pc := 20) (tgt := 2) B rfl dX7_voiceFor_20 ?_
        refine zv_loc (L' := [(0, .ref (b + 111)), (1, .int (nI (i + 1)))]) [1, 0] rfl ?_
        exact ih (i + 1)  (by omega) (Eq.trans (by rw [g1_X7_voiceFor, if_neg h3]) hE901) hK
      · refine zv_iload_n (pc := 15) B 1 rfl dX7_voiceFor_15 ?_
        have hE4 : nI i = m_X7_voiceFor c := (Eq.trans (by rw [g1_X7_voiceFor, if_pos h3]) hE901)
        exact zv_iret (pc := 16) B (nI i) hr (fun H hP => ⟨(), (congrArg (fun z => some (Value.int z)) hE4), hP⟩) (Nat.le_of_ble_eq_true rfl) (Nat.le_of_ble_eq_true rfl) dX7_voiceFor_16
  refine zv_loc (L' := [(0, .ref (b + 111)), (1, .int 0)]) [1, 0] rfl ?_
  refine loop1 (fun i => g2_X7_voiceFor c 4 0 (-1) (fun j x => if x < 0 then (g3_X7_voiceFor c 3 1 0 (fun k y => nI y)) else x)) 4 0  (by omega) (by unfold m_X7_voiceFor; rfl) ?_
  intro i hx
  intro (hE951 : g2_X7_voiceFor c 4 0 (-1) (fun j x => if x < 0 then (g3_X7_voiceFor c 3 1 0 (fun k y => nI y)) else x) = m_X7_voiceFor c)
  refine zv_iconst (pc := 23) (v := (-1)) B rfl dX7_voiceFor_23 ?_
  refine zv_istore_n (pc := 24) (L' := [(1, .int (-1)), (0, .ref (b + 111))]) B (by decide) rfl dX7_voiceFor_24 ?_
  refine zv_iconst (pc := 25) (v := 0) B rfl dX7_voiceFor_25 ?_
  refine zv_istore_n (pc := 26) (L' := [(2, .int 0), (1, .int (-1)), (0, .ref (b + 111))]) B (by decide) rfl dX7_voiceFor_26 ?_
  have loop2 : ∀ (K : Nat → Int32 → Int32) (n : Nat) (j : Nat) (x : Int32), (x = -1 ∨ zn x < 4) → j + n = 4 → g2_X7_voiceFor c n j x K = m_X7_voiceFor c → (∀ (j : Nat) (x : Int32), (x = -1 ∨ zn x < 4) → j ≤ 4 → K j x = m_X7_voiceFor c → zV p l e (zRm 3 0 0) s m args below meth c9 (MQ below (zQ b (fun v9 (_ : Unit) => v9 = some (.int (m_X7_voiceFor c))) (fun _ => zH E b c w en ea)) args s 0 0 (zA b)) 3 b (zH E b c w en ea) 69 [(0, .ref (b + 111)), (2, .int (nI j)), (1, .int x)] [] 0 0) → zV p l e (zRm 3 0 0) s m args below meth c9 (MQ below (zQ b (fun v9 (_ : Unit) => v9 = some (.int (m_X7_voiceFor c))) (fun _ => zH E b c w en ea)) args s 0 0 (zA b)) 3 b (zH E b c w en ea) 27 [(0, .ref (b + 111)), (2, .int (nI j)), (1, .int x)] [] 0 0 := by
    intro K n
    induction n with
    | zero =>
      intro j x hx hi hE902 hK
      refine zv_iload_n (pc := 27) B 1 rfl dX7_voiceFor_27 ?_
      refine zv_iconst (pc := 28) (v := 4) B rfl dX7_voiceFor_28 ?_
      refine zv_icmp_ge (pc := 29) (tgt := 69) B dX7_voiceFor_29 rfl (fun _ => ?_) (fun h9 => absurd ((z_le (a := 4) (b := j) rfl rfl (by omega) (by omega)).mpr (by omega)) h9)
      exact hK j x hx (by omega) (Eq.trans (by rw [g2_X7_voiceFor]) hE902)
    | succ n ih =>
      intro j x hx hi hE902 hK
      refine zv_iload_n (pc := 27) B 1 rfl dX7_voiceFor_27 ?_
      refine zv_iconst (pc := 28) (v := 4) B rfl dX7_voiceFor_28 ?_
      refine zv_icmp_ge (pc := 29) (tgt := 69) B dX7_voiceFor_29 rfl (fun h9 => absurd h9 (fun q9 => absurd ((z_le (a := 4) (b := j) rfl rfl (by omega) (by omega)).mp q9) (by omega))) (fun _ => ?_)
      refine zv_aload_n (pc := 32) B 0 rfl dX7_voiceFor_32 ?_
      refine zv_iload_n (pc := 33) B 1 rfl dX7_voiceFor_33 ?_
      refine zv_callV (pc := 34) (As := [.int (nI j)]) (rest := []) B (k_X7_isReleased l E b _ _ _ _  (by omega)) (zcwV 1 2 B wm_X7_138 wi_X7_isReleased wv_X7_isReleased wn_X7 wcode_X7_isReleased rfl (by decide +kernel) ⟨(Nat.le_of_ble_eq_true rfl), (Nat.le_of_ble_eq_true rfl)⟩) rfl (zrecv B (zat (by decide) (z111 _ _ _)) cl7) zid rfl (Nat.le_of_ble_eq_true rfl) dX7_voiceFor_34 ⟨(Nat.le_of_ble_eq_true rfl), (Nat.le_of_ble_eq_true rfl)⟩ (fun v9 u9 hv9 => ?_)
      subst hv9
      refine zv_st (st' := [.int (m_X7_isReleased c j)]) rfl ?_
      refine zv_if_eq (pc := 37) (tgt := 63) B dX7_voiceFor_37 rfl (fun h7 => ?_) (fun h7 => ?_)
      · refine zv_iinc (pc := 63) (v := nI (j + 1)) (L' := [(2, .int (nI (j + 1))), (0, .ref (b + 111)), (1, .int x)]) B 1 rfl (nI_1 _) (by decide) rfl dX7_voiceFor_63 ?_
        refine zv_goto (pc := 66) (tgt := 27) B rfl dX7_voiceFor_66 ?_
        refine zv_loc (L' := [(0, .ref (b + 111)), (2, .int (nI (j + 1))), (1, .int x)]) [1, 0, 2] rfl ?_
        exact ih (j + 1) x hx (by omega) (Eq.trans (by rw [g2_X7_voiceFor, if_pos h7]) hE902) hK
      · refine zv_iload_n (pc := 40) B 2 rfl dX7_voiceFor_40 ?_
        refine zv_if_lt (pc := 41) (tgt := 61) B dX7_voiceFor_41 rfl (fun h8 => ?_) (fun h8 => ?_)
        · refine zv_iload_n (pc := 61) B 1 rfl dX7_voiceFor_61 ?_
          refine zv_istore_n (pc := 62) (L' := [(1, .int (nI j)), (0, .ref (b + 111)), (2, .int (nI j))]) B (by decide) rfl dX7_voiceFor_62 ?_
          refine zv_iinc (pc := 63) (v := nI (j + 1)) (L' := [(2, .int (nI (j + 1))), (1, .int (nI j)), (0, .ref (b + 111))]) B 2 rfl (nI_1 _) (by decide) rfl dX7_voiceFor_63 ?_
          refine zv_goto (pc := 66) (tgt := 27) B rfl dX7_voiceFor_66 ?_
          refine zv_loc (L' := [(0, .ref (b + 111)), (2, .int (nI (j + 1))), (1, .int (nI j))]) [2, 0, 1] rfl ?_
          exact ih (j + 1) (nI j) (Or.inr (by rw [zn_nI (by omega)]; omega)) (by omega) (Eq.trans (by rw [g2_X7_voiceFor, if_neg h7, if_pos h8]) hE902) hK
        · refine zv_aload_n (pc := 44) B 0 rfl dX7_voiceFor_44 ?_
          refine zv_iload_n (pc := 45) B 1 rfl dX7_voiceFor_45 ?_
          refine zv_bipush (pc := 46) (v := 14) B rfl dX7_voiceFor_46 ?_
          refine zv_st (st' := [.int (nI 14), .int (nI j), .ref (b + 111)]) rfl ?_
          refine zv_callV (pc := 48) (As := [.int (nI j), .int (nI 14)]) (rest := []) B (k_X7_at (k := 14) l E b _ _ _ _  (by omega) (by decide)) (zcwV 2 0 B wm_X7_132 wi_X7_at wv_X7_at wn_X7 wcode_X7_at rfl (by decide +kernel) ⟨(Nat.le_of_ble_eq_true rfl), (Nat.le_of_ble_eq_true rfl)⟩) rfl (zrecv B (zat (by decide) (z111 _ _ _)) cl7) zid rfl (Nat.le_of_ble_eq_true rfl) dX7_voiceFor_48 ⟨(Nat.le_of_ble_eq_true rfl), (Nat.le_of_ble_eq_true rfl)⟩ (fun v9 u9 hv9 => ?_)
          subst hv9
          refine zv_st (st' := [.int (m_X7_at c j 14)]) rfl ?_
          refine zv_aload_n (pc := 51) B 0 rfl dX7_voiceFor_51 ?_
          refine zv_iload_n (pc := 52) B 2 rfl dX7_voiceFor_52 ?_
          refine zv_bipush (pc := 53) (v := 14) B rfl dX7_voiceFor_53 ?_
          refine zv_st (st' := [.int (nI 14), .int (nI (zn x)), .ref (b + 111), .int (m_X7_at c j 14)]) (by rw [← zn_eq x]; rfl) ?_
          refine zv_callV (pc := 55) (As := [.int (nI (zn x)), .int (nI 14)]) (rest := [.int (m_X7_at c j 14)]) B (k_X7_at (k := 14) l E b _ _ _ _  (hx.resolve_left (fun q => h8 (by rw [q]; decide))) (by decide)) (zcwV 2 0 B wm_X7_132 wi_X7_at wv_X7_at wn_X7 wcode_X7_at rfl (by decide +kernel) ⟨(Nat.le_of_ble_eq_true rfl), (Nat.le_of_ble_eq_true rfl)⟩) rfl (zrecv B (zat (by decide) (z111 _ _ _)) cl7) zid rfl (Nat.le_of_ble_eq_true rfl) dX7_voiceFor_55 ⟨(Nat.le_of_ble_eq_true rfl), (Nat.le_of_ble_eq_true rfl)⟩ (fun v9 u9 hv9 => ?_)
          subst hv9
          refine zv_st (st' := [.int (m_X7_at c (zn x) 14), .int (m_X7_at c j 14)]) rfl ?_
          refine zv_icmp_ge (pc := 58) (tgt := 63) B dX7_voiceFor_58 rfl (fun h9 => ?_) (fun h9 => ?_)
          · refine zv_iinc (pc := 63) (v := nI (j + 1)) (L' := [(2, .int (nI (j + 1))), (0, .ref (b + 111)), (1, .int x)]) B 1 rfl (nI_1 _) (by decide) rfl dX7_voiceFor_63 ?_
            refine zv_goto (pc := 66) (tgt := 27) B rfl dX7_voiceFor_66 ?_
            refine zv_loc (L' := [(0, .ref (b + 111)), (2, .int (nI (j + 1))), (1, .int x)]) [1, 0, 2] rfl ?_
            exact ih (j + 1) x hx (by omega) (Eq.trans (by rw [g2_X7_voiceFor, if_neg h7, if_neg h8, if_pos h9]) hE902) hK
          · refine zv_iload_n (pc := 61) B 1 rfl dX7_voiceFor_61 ?_
            refine zv_istore_n (pc := 62) (L' := [(1, .int (nI j)), (0, .ref (b + 111)), (2, .int (nI j))]) B (by decide) rfl dX7_voiceFor_62 ?_
            refine zv_iinc (pc := 63) (v := nI (j + 1)) (L' := [(2, .int (nI (j + 1))), (1, .int (nI j)), (0, .ref (b + 111))]) B 2 rfl (nI_1 _) (by decide) rfl dX7_voiceFor_63 ?_
            refine zv_goto (pc := 66) (tgt := 27) B rfl dX7_voiceFor_66 ?_
            refine zv_loc (L' := [(0, .ref (b + 111)), (2, .int (nI (j + 1))), (1, .int (nI j))]) [2, 0, 1] rfl ?_
            exact ih (j + 1) (nI j) (Or.inr (by rw [zn_nI (by omega)]; omega)) (by omega) (Eq.trans (by rw [g2_X7_voiceFor, if_neg h7, if_neg h8, if_neg h9]) hE902) hK
  refine zv_loc (L' := [(0, .ref (b + 111)), (2, .int 0), (1, .int (-1))]) [2, 0, 1] rfl ?_
  refine loop2 (fun j x => if x < 0 then (g3_X7_voiceFor c 3 1 0 (fun k y => nI y)) else x) 4 0 (-1) (Or.inl rfl) (by omega) hE951 ?_
  intro j x hx hx
  intro (hE952 : (if x < 0 then (g3_X7_voiceFor c 3 1 0 (fun k y => nI y)) else x) = m_X7_voiceFor c)
  refine zv_iload_n (pc := 69) B 2 rfl dX7_voiceFor_69 ?_
  refine zv_if_lt (pc := 70) (tgt := 75) B dX7_voiceFor_70 rfl (fun h10 => ?_) (fun h10 => ?_)
  · refine zv_iconst (pc := 75) (v := 0) B rfl dX7_voiceFor_75 ?_
    refine zv_istore_n (pc := 76) (L' := [(1, .int 0), (0, .ref (b + 111)), (2, .int (nI j))]) B (by decide) rfl dX7_voiceFor_76 ?_
    refine zv_iconst (pc := 77) (v := 1) B rfl dX7_voiceFor_77 ?_
    refine zv_istore_n (pc := 78) (L' := [(2, .int 1), (1, .int 0), (0, .ref (b + 111))]) B (by decide) rfl dX7_voiceFor_78 ?_
    have loop3 : ∀ (K : Nat → Nat → Int32) (n : Nat) (k : Nat) (y : Nat), y < 4 → k + n = 4 → g3_X7_voiceFor c n k y K = m_X7_voiceFor c → (∀ (k : Nat) (y : Nat), y < 4 → k ≤ 4 → K k y = m_X7_voiceFor c → zV p l e (zRm 3 0 0) s m args below meth c9 (MQ below (zQ b (fun v9 (_ : Unit) => v9 = some (.int (m_X7_voiceFor c))) (fun _ => zH E b c w en ea)) args s 0 0 (zA b)) 3 b (zH E b c w en ea) 109 [(0, .ref (b + 111)), (2, .int (nI k)), (1, .int (nI y))] [] 0 0) → zV p l e (zRm 3 0 0) s m args below meth c9 (MQ below (zQ b (fun v9 (_ : Unit) => v9 = some (.int (m_X7_voiceFor c))) (fun _ => zH E b c w en ea)) args s 0 0 (zA b)) 3 b (zH E b c w en ea) 79 [(0, .ref (b + 111)), (2, .int (nI k)), (1, .int (nI y))] [] 0 0 := by
      intro K n
      induction n with
      | zero =>
        intro k y hy hi hE903 hK
        refine zv_iload_n (pc := 79) B 1 rfl dX7_voiceFor_79 ?_
        refine zv_iconst (pc := 80) (v := 4) B rfl dX7_voiceFor_80 ?_
        refine zv_icmp_ge (pc := 81) (tgt := 109) B dX7_voiceFor_81 rfl (fun _ => ?_) (fun h9 => absurd ((z_le (a := 4) (b := k) rfl rfl (by omega) (by omega)).mpr (by omega)) h9)
        exact hK k y (by omega) (by omega) (Eq.trans (by rw [g3_X7_voiceFor]) hE903)
      | succ n ih =>
        intro k y hy hi hE903 hK
        refine zv_iload_n (pc := 79) B 1 rfl dX7_voiceFor_79 ?_
        refine zv_iconst (pc := 80) (v := 4) B rfl dX7_voiceFor_80 ?_
        refine zv_icmp_ge (pc := 81) (tgt := 109) B dX7_voiceFor_81 rfl (fun h9 => absurd h9 (fun q9 => absurd ((z_le (a := 4) (b := k) rfl rfl (by omega) (by omega)).mp q9) (by omega))) (fun _ => ?_)
        refine zv_aload_n (pc := 84) B 0 rfl dX7_voiceFor_84 ?_
        refine zv_iload_n (pc := 85) B 1 rfl dX7_voiceFor_85 ?_
        refine zv_bipush (pc := 86) (v := 13) B rfl dX7_voiceFor_86 ?_
        refine zv_st (st' := [.int (nI 13), .int (nI k), .ref (b + 111)]) rfl ?_
        refine zv_callV (pc := 88) (As := [.int (nI k), .int (nI 13)]) (rest := []) B (k_X7_at (k := 13) l E b _ _ _ _  (by omega) (by decide)) (zcwV 2 0 B wm_X7_132 wi_X7_at wv_X7_at wn_X7 wcode_X7_at rfl (by decide +kernel) ⟨(Nat.le_of_ble_eq_true rfl), (Nat.le_of_ble_eq_true rfl)⟩) rfl (zrecv B (zat (by decide) (z111 _ _ _)) cl7) zid rfl (Nat.le_of_ble_eq_true rfl) dX7_voiceFor_88 ⟨(Nat.le_of_ble_eq_true rfl), (Nat.le_of_ble_eq_true rfl)⟩ (fun v9 u9 hv9 => ?_)
        subst hv9
        refine zv_st (st' := [.int (m_X7_at c k 13)]) rfl ?_
        refine zv_aload_n (pc := 91) B 0 rfl dX7_voiceFor_91 ?_
        refine zv_iload_n (pc := 92) B 2 rfl dX7_voiceFor_92 ?_
        refine zv_bipush (pc := 93) (v := 13) B rfl dX7_voiceFor_93 ?_
        refine zv_st (st' := [.int (nI 13), .int (nI y), .ref (b + 111), .int (m_X7_at c k 13)]) rfl ?_
        refine zv_callV (pc := 95) (As := [.int (nI y), .int (nI 13)]) (rest := [.int (m_X7_at c k 13)]) B (k_X7_at (k := 13) l E b _ _ _ _  hy (by decide)) (zcwV 2 0 B wm_X7_132 wi_X7_at wv_X7_at wn_X7 wcode_X7_at rfl (by decide +kernel) ⟨(Nat.le_of_ble_eq_true rfl), (Nat.le_of_ble_eq_true rfl)⟩) rfl (zrecv B (zat (by decide) (z111 _ _ _)) cl7) zid rfl (Nat.le_of_ble_eq_true rfl) dX7_voiceFor_95 ⟨(Nat.le_of_ble_eq_true rfl), (Nat.le_of_ble_eq_true rfl)⟩ (fun v9 u9 hv9 => ?_)
        subst hv9
        refine zv_st (st' := [.int (m_X7_at c y 13), .int (m_X7_at c k 13)]) rfl ?_
        refine zv_icmp_ge (pc := 98) (tgt := 103) B dX7_voiceFor_98 rfl (fun h13 => ?_) (fun h13 => ?_)
        · refine zv_iinc (pc := 103) (v := nI (k + 1)) (L' := [(2, .int (nI (k + 1))), (0, .ref (b + 111)), (1, .int (nI y))]) B 1 rfl (nI_1 _) (by decide) rfl dX7_voiceFor_103 ?_
          refine zv_goto (pc := 106) (tgt := 79) B rfl dX7_voiceFor_106 ?_
          refine zv_loc (L' := [(0, .ref (b + 111)), (2, .int (nI (k + 1))), (1, .int (nI y))]) [1, 0, 2] rfl ?_
          exact ih (k + 1) y (by omega) (by omega) (Eq.trans (by rw [g3_X7_voiceFor, if_pos h13]) hE903) hK
        · refine zv_iload_n (pc := 101) B 1 rfl dX7_voiceFor_101 ?_
          refine zv_istore_n (pc := 102) (L' := [(1, .int (nI k)), (0, .ref (b + 111)), (2, .int (nI k))]) B (by decide) rfl dX7_voiceFor_102 ?_
          refine zv_iinc (pc := 103) (v := nI (k + 1)) (L' := [(2, .int (nI (k + 1))), (1, .int (nI k)), (0, .ref (b + 111))]) B 2 rfl (nI_1 _) (by decide) rfl dX7_voiceFor_103 ?_
          refine zv_goto (pc := 106) (tgt := 79) B rfl dX7_voiceFor_106 ?_
          refine zv_loc (L' := [(0, .ref (b + 111)), (2, .int (nI (k + 1))), (1, .int (nI k))]) [2, 0, 1] rfl ?_
          exact ih (k + 1) k (by omega) (by omega) (Eq.trans (by rw [g3_X7_voiceFor, if_neg h13]) hE903) hK
    refine zv_loc (L' := [(0, .ref (b + 111)), (2, .int 1), (1, .int 0)]) [2, 0, 1] rfl ?_
    refine loop3 (fun k y => nI y) 3 1 0 (by omega) (by omega) (Eq.trans (by rw [if_pos h10]) hE952) ?_
    intro k y hy hx
    intro (hE953 : nI y = m_X7_voiceFor c)
    refine zv_iload_n (pc := 109) B 2 rfl dX7_voiceFor_109 ?_
    have hE14 : nI y = m_X7_voiceFor c := hE953
    exact zv_iret (pc := 110) B (nI y) hr (fun H hP => ⟨(), (congrArg (fun z => some (Value.int z)) hE14), hP⟩) (Nat.le_of_ble_eq_true rfl) (Nat.le_of_ble_eq_true rfl) dX7_voiceFor_110
  · refine zv_iload_n (pc := 73) B 2 rfl dX7_voiceFor_73 ?_
    have hE15 : x = m_X7_voiceFor c := (Eq.trans (by rw [if_neg h10]) hE952)
    exact zv_iret (pc := 74) B (x) hr (fun H hP => ⟨(), (congrArg (fun z => some (Value.int z)) hE15), hP⟩) (Nat.le_of_ble_eq_true rfl) (Nat.le_of_ble_eq_true rfl) dX7_voiceFor_74
