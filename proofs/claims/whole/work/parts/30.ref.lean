def m_X7_sounds (c : Nat → Nat → Int32) (t : Nat) : Int32 × (Nat → Nat → Int32) := if (c 114 t) = 0 then ((m_X7_sung c).1, (m_X7_sung c).2) else (if (c 114 t) = 3 then ((m_X7_filtered c t).1, (m_X7_filtered c t).2) else (if (c 114 t) = 1 then (((m_X7_inputOf c t) * (c 115 t)) / 100, c) else (r_X7_limited (m_X7_inputOf c t) (c 115 t), c)))
set_option maxRecDepth 100000 in
set_option maxHeartbeats 400000 in
theorem k_X7_sounds (l : Launch) (E : zE) (b : Nat) (c : Nat → Nat → Int32) (w : Nat → Int64) (en : Nat → Nat) (ea : Nat → Nat → Int32) {t : Nat} (ht : t < 10) {T : Nat} (hT : T + 4 < 2 ^ 30) (hL : zLv T (c 112)) (hg : zG c) : zM l yX7_sounds (.code yX7_sounds cX7_sounds 3 (some .int) :: zAll) (zRm 6 0 0) E b [.ref (b + 111), .int (nI t)] (zH E b c w en ea) (fun v9 (_ : Unit) => v9 = some (.int (m_X7_sounds c t).1) ∧ zfr 112 113 112 112 c (m_X7_sounds c t).2 ∧ zG (m_X7_sounds c t).2) (fun _ => zH E b ((m_X7_sounds c t).2) w en ea) 0 0 := by
  refine zM_of "ToneGraphModel" (by decide) rfl rfl (Nat.le_of_ble_eq_true rfl) (L0 := [(0, .ref (b + 111)), (1, .int (nI t))]) rfl ?_
  intro p e s m args below meth c9 B hr hname
  refine zv_aload_n (pc := 0) B 0 rfl dX7_sounds_0 ?_
  refine zv_get (pc := 1) (v := .ref (b + 114)) B (zat (by decide) (z111 _ _ _)) cl7 inX7 2 (by decide) wf_X7_16 rfl dX7_sounds_1 ?_
  refine zv_iload_n (pc := 4) B 1 rfl dX7_sounds_4 ?_
  refine zv_iald (pc := 5) (jj := t) B (zat (by decide) (z114 _ _ _)) rfl ht (by decide) dX7_sounds_5 ?_
  refine zv_istore_n (pc := 6) (L' := [(2, .int (c 114 t)), (0, .ref (b + 111)), (1, .int (nI t))]) B (by decide) rfl dX7_sounds_6 ?_
  refine zv_iload_n (pc := 7) B 0 rfl dX7_sounds_7 ?_
  refine zv_if_ne (pc := 8) (tgt := 16) B dX7_sounds_8 rfl (fun h1 => ?_) (fun h1 => ?_)
  · refine zv_iload_n (pc := 16) B 0 rfl dX7_sounds_16 ?_
    refine zv_iconst (pc := 17) (v := 3) B rfl dX7_sounds_17 ?_
    refine zv_icmp_ne (pc := 18) (tgt := 27) B dX7_sounds_18 rfl (fun h2 => ?_) (fun h2 => ?_)
    · refine zv_iload_n (pc := 27) B 0 rfl dX7_sounds_27 ?_
      refine zv_iconst (pc := 28) (v := 1) B rfl dX7_sounds_28 ?_
      refine zv_icmp_ne (pc := 29) (tgt := 50) B dX7_sounds_29 rfl (fun h3 => ?_) (fun h3 => ?_)
      · refine zv_aload_n (pc := 50) B 1 rfl dX7_sounds_50 ?_
        refine zv_iload_n (pc := 51) B 2 rfl dX7_sounds_51 ?_
        refine zv_callV (pc := 52) (As := [.int (nI t)]) (rest := []) B (k_X7_inputOf l E b _ _ _ _  ht hg) (zcwV 1 0 B wm_X7_180 wi_X7_inputOf wv_X7_inputOf wn_X7 wcode_X7_inputOf rfl (by decide +kernel) ⟨(Nat.le_of_ble_eq_true rfl), (Nat.le_of_ble_eq_true rfl)⟩) rfl (zrecv B (zat (by decide) (z111 _ _ _)) cl7) zid rfl (Nat.le_of_ble_eq_true rfl) dX7_sounds_52 ⟨(Nat.le_of_ble_eq_true rfl), (Nat.le_of_ble_eq_true rfl)⟩ (fun v9 u9 hv9 => ?_)
        subst hv9
        refine zv_st (st' := [.int (m_X7_inputOf c t)]) rfl ?_
        refine zv_aload_n (pc := 55) B 1 rfl dX7_sounds_55 ?_
        refine zv_get (pc := 56) (v := .ref (b + 115)) B (zat (by decide) (z111 _ _ _)) cl7 inX7 3 (by decide) wf_X7_19 rfl dX7_sounds_56 ?_
        refine zv_iload_n (pc := 59) B 2 rfl dX7_sounds_59 ?_
        refine zv_iald (pc := 60) (jj := t) B (zat (by decide) (z115 _ _ _)) rfl ht (by decide) dX7_sounds_60 ?_
        refine zv_callS (pc := 61) (As := [.int (m_X7_inputOf c t), .int (c 115 t)]) (rest := []) B (k_X7_limited l E b (m_X7_inputOf c t) (c 115 t)) (zcwS 2 1 B wm_X7_195 ws_X7_limited wn_X7 wcode_X7_limited (by decide +kernel) ⟨(Nat.le_of_ble_eq_true rfl), (Nat.le_of_ble_eq_true rfl)⟩) rfl zid rfl (Nat.le_of_ble_eq_true rfl) dX7_sounds_61 ⟨(Nat.le_of_ble_eq_true rfl), (Nat.le_of_ble_eq_true rfl)⟩ (fun v9 u9 hv9 => ?_)
        subst hv9
        refine zv_st (st' := [.int (r_X7_limited (m_X7_inputOf c t) (c 115 t))]) rfl ?_
        have hE4 : (r_X7_limited (m_X7_inputOf c t) (c 115 t), c) = m_X7_sounds c t := (by unfold m_X7_sounds; rw [if_neg h1, if_neg h2, if_neg h3])
        exact zv_iret (pc := 64) B (r_X7_limited (m_X7_inputOf c t) (c 115 t)) hr (fun H hP => ⟨(), ⟨(by rw [(zp2 hE4).1]), (by rw [(zp2 hE4).2]; exact zfr.refl), (by rw [(zp2 hE4).2]; exact hg)⟩, (by rw [(zp2 hE4).2]; exact hP)⟩) (Nat.le_of_ble_eq_true rfl) (Nat.le_of_ble_eq_true rfl) dX7_sounds_64
      · refine zv_aload_n (pc := 32) B 1 rfl dX7_sounds_32 ?_
        refine zv_iload_n (pc := 33) B 2 rfl dX7_sounds_33 ?_
        refine zv_callV (pc := 34) (As := [.int (nI t)]) (rest := []) B (k_X7_inputOf l E b _ _ _ _  ht hg) (zcwV 1 0 B wm_X7_180 wi_X7_inputOf wv_X7_inputOf wn_X7 wcode_X7_inputOf rfl (by decide +kernel) ⟨(Nat.le_of_ble_eq_true rfl), (Nat.le_of_ble_eq_true rfl)⟩) rfl (zrecv B (zat (by decide) (z111 _ _ _)) cl7) zid rfl (Nat.le_of_ble_eq_true rfl) dX7_sounds_34 ⟨(Nat.le_of_ble_eq_true rfl), (Nat.le_of_ble_eq_true rfl)⟩ (fun v9 u9 hv9 => ?_)
        subst hv9
        refine zv_st (st' := [.int (m_X7_inputOf c t)]) rfl ?_
        refine zv_aload_n (pc := 37) B 1 rfl dX7_sounds_37 ?_
        refine zv_get (pc := 38) (v := .ref (b + 115)) B (zat (by decide) (z111 _ _ _)) cl7 inX7 3 (by decide) wf_X7_19 rfl dX7_sounds_38 ?_
        refine zv_iload_n (pc := 41) B 2 rfl dX7_sounds_41 ?_
        refine zv_iald (pc := 42) (jj := t) B (zat (by decide) (z115 _ _ _)) rfl ht (by decide) dX7_sounds_42 ?_
        refine zv_imul (pc := 43) B dX7_sounds_43 ?_
        refine zv_bipush (pc := 44) (v := 100) B rfl dX7_sounds_44 ?_
        refine zv_idiv (pc := 46) B (by decide) dX7_sounds_46 ?_
        refine zv_goto (pc := 47) (tgt := 64) B rfl dX7_sounds_47 ?_
        have hE5 : (((m_X7_inputOf c t) * (c 115 t)) / 100, c) = m_X7_sounds c t := (by unfold m_X7_sounds; rw [if_neg h1, if_neg h2, if_pos h3])
        exact zv_iret (pc := 64) B (((m_X7_inputOf c t) * (c 115 t)) / 100) hr (fun H hP => ⟨(), ⟨(by rw [(zp2 hE5).1]), (by rw [(zp2 hE5).2]; exact zfr.refl), (by rw [(zp2 hE5).2]; exact hg)⟩, (by rw [(zp2 hE5).2]; exact hP)⟩) (Nat.le_of_ble_eq_true rfl) (Nat.le_of_ble_eq_true rfl) dX7_sounds_64
    · refine zv_aload_n (pc := 21) B 1 rfl dX7_sounds_21 ?_
      refine zv_iload_n (pc := 22) B 2 rfl dX7_sounds_22 ?_
      refine zv_callV (pc := 23) (As := [.int (nI t)]) (rest := []) B (k_X7_filtered l E b _ _ _ _  ht hg) (zcwV 1 1 B wm_X7_192 wi_X7_filtered wv_X7_filtered wn_X7 wcode_X7_filtered rfl (by decide +kernel) ⟨(Nat.le_of_ble_eq_true rfl), (Nat.le_of_ble_eq_true rfl)⟩) rfl (zrecv B (zat (by decide) (z111 _ _ _)) cl7) zid rfl (Nat.le_of_ble_eq_true rfl) dX7_sounds_23 ⟨(Nat.le_of_ble_eq_true rfl), (Nat.le_of_ble_eq_true rfl)⟩ (fun v9 u9 hv9 => ?_)
      obtain ⟨rfl, hF2006, hg2006⟩ := hv9
      refine zv_st (st' := [.int ((m_X7_filtered c t).1)]) rfl ?_
      have hE7 : ((m_X7_filtered c t).1, (m_X7_filtered c t).2) = m_X7_sounds c t := (by unfold m_X7_sounds; rw [if_neg h1, if_pos h2])
      exact zv_iret (pc := 26) B ((m_X7_filtered c t).1) hr (fun H hP => ⟨(), ⟨(by rw [(zp2 hE7).1]), (by rw [(zp2 hE7).2]; exact (zfr.call zfr.refl hF2006 (by omega))), (by rw [(zp2 hE7).2]; exact hg2006)⟩, (by rw [(zp2 hE7).2]; exact hP)⟩) (Nat.le_of_ble_eq_true rfl) (Nat.le_of_ble_eq_true rfl) dX7_sounds_26
  · refine zv_aload_n (pc := 11) B 1 rfl dX7_sounds_11 ?_
    refine zv_callV (pc := 12) (As := []) (rest := []) B (k_X7_sung l E b _ _ _ _  hT hL hg) (zcwV 0 5 B wm_X7_189 wi_X7_sung wv_X7_sung wn_X7 wcode_X7_sung rfl (by decide +kernel) ⟨(Nat.le_of_ble_eq_true rfl), (Nat.le_of_ble_eq_true rfl)⟩) rfl (zrecv B (zat (by decide) (z111 _ _ _)) cl7) zid rfl (Nat.le_of_ble_eq_true rfl) dX7_sounds_12 ⟨(Nat.le_of_ble_eq_true rfl), (Nat.le_of_ble_eq_true rfl)⟩ (fun v9 u9 hv9 => ?_)
    obtain ⟨rfl, hF2008, hg2008⟩ := hv9
    refine zv_st (st' := [.int ((m_X7_sung c).1)]) rfl ?_
    have hE9 : ((m_X7_sung c).1, (m_X7_sung c).2) = m_X7_sounds c t := (by unfold m_X7_sounds; rw [if_pos h1])
    exact zv_iret (pc := 15) B ((m_X7_sung c).1) hr (fun H hP => ⟨(), ⟨(by rw [(zp2 hE9).1]), (by rw [(zp2 hE9).2]; exact (zfr.call zfr.refl hF2008 (by omega))), (by rw [(zp2 hE9).2]; exact hg2008)⟩, (by rw [(zp2 hE9).2]; exact hP)⟩) (Nat.le_of_ble_eq_true rfl) (Nat.le_of_ble_eq_true rfl) dX7_sounds_15
