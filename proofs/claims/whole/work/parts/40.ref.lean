def m_X7_adds (c : Nat → Nat → Int32) (x y z u : Int32) : Int32 × (Nat → Nat → Int32) := ((nI (zn (c 111 13) + 1)) - 1, (m_X7_lays (zup (zup (zup (zup (zup c 114 (zn (c 111 13)) x) 115 (zn (c 111 13)) y) 116 (zn (c 111 13)) z) 117 (zn (c 111 13)) u) 111 13 (nI (zn (c 111 13) + 1)))))
set_option maxRecDepth 100000 in
set_option maxHeartbeats 400000 in
theorem k_X7_adds (l : Launch) (E : zE) (b : Nat) (c : Nat → Nat → Int32) (w : Nat → Int64) (en : Nat → Nat) (ea : Nat → Nat → Int32) (x y z u : Int32) (hnf : zn (c 111 13) < 10) (hA : zAc c (zn (c 111 13))) (h0 : c 120 (zn (c 111 13)) = 0) (hg : zG c) : zM l yX7_adds (.code yX7_adds cX7_adds 5 (some .int) :: zAll) (zRm 2 0 0) E b [.ref (b + 111), .int x, .int y, .int z, .int u] (zH E b c w en ea) (fun v9 (_ : Unit) => v9 = some (.int (m_X7_adds c x y z u).1) ∧ zfr 114 124 111 112 c (m_X7_adds c x y z u).2 ∧ zG (m_X7_adds c x y z u).2) (fun _ => zH E b ((m_X7_adds c x y z u).2) w en ea) 0 0 := by
  refine zM_of "ToneGraphModel" (by decide) rfl rfl (Nat.le_of_ble_eq_true rfl) (L0 := [(0, .ref (b + 111)), (1, .int x), (2, .int y), (3, .int z), (4, .int u)]) rfl ?_
  intro p e s m args below meth c9 B hr hname
  refine zv_aload_n (pc := 0) B 0 rfl dX7_adds_0 ?_
  refine zv_get (pc := 1) (v := .ref (b + 114)) B (zat (by decide) (z111 _ _ _)) cl7 inX7 2 (by decide) wf_X7_16 rfl dX7_adds_1 ?_
  refine zv_aload_n (pc := 4) B 0 rfl dX7_adds_4 ?_
  refine zv_get (pc := 5) (v := .int (c 111 13)) B (zat (by decide) (z111 _ _ _)) cl7 inX7 13 (by decide) wf_X7_51 rfl dX7_adds_5 ?_
  refine zv_iload_n (pc := 8) B 1 rfl dX7_adds_8 ?_
  refine zs_iast (pc := 9) (jj := (zn (c 111 13))) B zid (by decide) rfl (fun x w e => z114 x w e) (zn_eq (c 111 13)) (by omega) (by decide) dX7_adds_9 ?_
  refine zv_aload_n (pc := 10) B 0 rfl dX7_adds_10 ?_
  refine zv_get (pc := 11) (v := .ref (b + 115)) B (zat (by decide) (z111 _ _ _)) cl7 inX7 3 (by decide) wf_X7_19 rfl dX7_adds_11 ?_
  refine zv_aload_n (pc := 14) B 0 rfl dX7_adds_14 ?_
  refine zv_get (pc := 15) (v := .int ((zup c 114 (zn (c 111 13)) x) 111 13)) B (zat (by decide) (z111 _ _ _)) cl7 inX7 13 (by decide) wf_X7_51 rfl dX7_adds_15 ?_
  refine zv_topi (y := c 111 13) (by rw [zup_i (i := 114) (i' := 111) _ _ _ (by decide)]) ?_
  refine zv_iload_n (pc := 18) B 2 rfl dX7_adds_18 ?_
  refine zs_iast (pc := 19) (jj := (zn (c 111 13))) B zid (by decide) rfl (fun x w e => z115 x w e) (zn_eq (c 111 13)) (by omega) (by decide) dX7_adds_19 ?_
  refine zv_aload_n (pc := 20) B 0 rfl dX7_adds_20 ?_
  refine zv_get (pc := 21) (v := .ref (b + 116)) B (zat (by decide) (z111 _ _ _)) cl7 inX7 4 (by decide) wf_X7_22 rfl dX7_adds_21 ?_
  refine zv_aload_n (pc := 24) B 0 rfl dX7_adds_24 ?_
  refine zv_get (pc := 25) (v := .int ((zup (zup c 114 (zn (c 111 13)) x) 115 (zn (c 111 13)) y) 111 13)) B (zat (by decide) (z111 _ _ _)) cl7 inX7 13 (by decide) wf_X7_51 rfl dX7_adds_25 ?_
  refine zv_topi (y := c 111 13) (by rw [zup_i (i := 115) (i' := 111) _ _ _ (by decide), zup_i (i := 114) (i' := 111) _ _ _ (by decide)]) ?_
  refine zv_iload_n (pc := 28) B 3 rfl dX7_adds_28 ?_
  refine zs_iast (pc := 29) (jj := (zn (c 111 13))) B zid (by decide) rfl (fun x w e => z116 x w e) (zn_eq (c 111 13)) (by omega) (by decide) dX7_adds_29 ?_
  refine zv_aload_n (pc := 30) B 0 rfl dX7_adds_30 ?_
  refine zv_get (pc := 31) (v := .ref (b + 117)) B (zat (by decide) (z111 _ _ _)) cl7 inX7 5 (by decide) wf_X7_25 rfl dX7_adds_31 ?_
  refine zv_aload_n (pc := 34) B 0 rfl dX7_adds_34 ?_
  refine zv_get (pc := 35) (v := .int ((zup (zup (zup c 114 (zn (c 111 13)) x) 115 (zn (c 111 13)) y) 116 (zn (c 111 13)) z) 111 13)) B (zat (by decide) (z111 _ _ _)) cl7 inX7 13 (by decide) wf_X7_51 rfl dX7_adds_35 ?_
  refine zv_topi (y := c 111 13) (by rw [zup_i (i := 116) (i' := 111) _ _ _ (by decide), zup_i (i := 115) (i' := 111) _ _ _ (by decide), zup_i (i := 114) (i' := 111) _ _ _ (by decide)]) ?_
  refine zv_iload (pc := 38) B 4 rfl dX7_adds_38 ?_
  refine zs_iast (pc := 40) (jj := (zn (c 111 13))) B zid (by decide) rfl (fun x w e => z117 x w e) (zn_eq (c 111 13)) (by omega) (by decide) dX7_adds_40 ?_
  refine zv_aload_n (pc := 41) B 0 rfl dX7_adds_41 ?_
  refine zv_dup (pc := 42) B rfl dX7_adds_42 ?_
  refine zv_get (pc := 43) (v := .int ((zup (zup (zup (zup c 114 (zn (c 111 13)) x) 115 (zn (c 111 13)) y) 116 (zn (c 111 13)) z) 117 (zn (c 111 13)) u) 111 13)) B (zat (by decide) (z111 _ _ _)) cl7 inX7 13 (by decide) wf_X7_51 rfl dX7_adds_43 ?_
  refine zv_topi (y := c 111 13) (by rw [zup_i (i := 117) (i' := 111) _ _ _ (by decide), zup_i (i := 116) (i' := 111) _ _ _ (by decide), zup_i (i := 115) (i' := 111) _ _ _ (by decide), zup_i (i := 114) (i' := 111) _ _ _ (by decide)]) ?_
  refine zv_iconst (pc := 46) (v := 1) B rfl dX7_adds_46 ?_
  refine zv_iadd (pc := 47) B dX7_adds_47 ?_
  refine zv_topi (y := nI (zn (c 111 13) + 1)) ((by rw [← nI_1, ← zn_eq])) ?_
  refine zs_put9 (pc := 48) (f := 13) (F := fun x9 => [.ref (b + 112), .ref (b + 113), .ref (b + 114), .ref (b + 115), .ref (b + 116), .ref (b + 117), .ref (b + 118), .ref (b + 119), .ref (b + 120), .ref (b + 121), .ref (b + 122), .ref (b + 123), .int (x9 12), .int (x9 13), .int (x9 14), .int (x9 15), .int (x9 16), .int (x9 17), .int (x9 18), .int (x9 19), .int (x9 20), .int (x9 21), .int (x9 22), .int (x9 23), .int (x9 24), .long (w 111)]) B zid (by decide) rfl (fun x => z111 x _ _) cl7 inX7 tyX7 tyX7_ok nmX7 (by decide) wf_X7_51 rfl rfl rfl rfl (Nat.le_of_ble_eq_true rfl) (fun _ _ => rfl) dX7_adds_48 ?_
  refine zv_aload_n (pc := 51) B 0 rfl dX7_adds_51 ?_
  refine zv_callV (pc := 52) (As := []) (rest := []) B (k_X7_lays l E b _ _ _ _  (by rw [zup_s, zn_nI (by omega)]; exact add_ok hA (fun k hk => by rw [zup_i _ _ _ (by decide), zup_i _ _ _ (by decide), zup_i _ _ _ (by decide), zup_i _ _ _ (by decide), zup_k _ _ hk]) (by rw [zup_i _ _ _ (by decide), zup_i _ _ _ (by decide), zup_i _ _ _ (by decide), zup_i _ _ _ (by decide), zup_i _ _ _ (by decide)]) (by rw [zup_i _ _ _ (by decide), zup_i _ _ _ (by decide), zup_i _ _ _ (by decide), zup_i _ _ _ (by decide), zup_i _ _ _ (by decide)]) h0) (zG.up (zG.free (zG.free (zG.free (zG.free hg (by unfold zfree; omega)) (by unfold zfree; omega)) (by unfold zfree; omega)) (by unfold zfree; omega)) (show zn _ ≤ 10 from (show zn _ ≤ 10 by rw [zn_nI (by omega)]; omega)))) (zcwV 0 1 B wm_X7_91 wi_X7_lays wv_X7_lays wn_X7 wcode_X7_lays rfl (by decide +kernel) ⟨(Nat.le_of_ble_eq_true rfl), (Nat.le_of_ble_eq_true rfl)⟩) rfl (zrecv B (zat (by decide) (z111 _ _ _)) cl7) zid rfl (Nat.le_of_ble_eq_true rfl) dX7_adds_52 ⟨(Nat.le_of_ble_eq_true rfl), (Nat.le_of_ble_eq_true rfl)⟩ (fun v9 u9 hv9 => ?_)
  obtain ⟨rfl, hF2001, hg2001⟩ := hv9
  refine zv_st (st' := []) rfl ?_
  refine zv_aload_n (pc := 55) B 0 rfl dX7_adds_55 ?_
  refine zv_get (pc := 56) (v := .int ((m_X7_lays (zup (zup (zup (zup (zup c 114 (zn (c 111 13)) x) 115 (zn (c 111 13)) y) 116 (zn (c 111 13)) z) 117 (zn (c 111 13)) u) 111 13 (nI (zn (c 111 13) + 1)))) 111 13)) B (zat (by decide) (z111 _ _ _)) cl7 inX7 13 (by decide) wf_X7_51 rfl dX7_adds_56 ?_
  refine zv_topi (y := nI (zn (c 111 13) + 1)) (by rw [hF2001 111 (by omega), zup_s]) ?_
  refine zv_iconst (pc := 59) (v := 1) B rfl dX7_adds_59 ?_
  refine zv_isub (pc := 60) B dX7_adds_60 ?_
  have hE2 : ((nI (zn (c 111 13) + 1)) - 1, (m_X7_lays (zup (zup (zup (zup (zup c 114 (zn (c 111 13)) x) 115 (zn (c 111 13)) y) 116 (zn (c 111 13)) z) 117 (zn (c 111 13)) u) 111 13 (nI (zn (c 111 13) + 1))))) = m_X7_adds c x y z u := (by unfold m_X7_adds; rfl)
  exact zv_iret (pc := 61) B ((nI (zn (c 111 13) + 1)) - 1) hr (fun H hP => ⟨(), ⟨(by rw [(zp2 hE2).1]), (by rw [(zp2 hE2).2]; exact (zfr.call2 (zfr.up (zfr.up (zfr.up (zfr.up (zfr.up zfr.refl (by omega)) (by omega)) (by omega)) (by omega)) (by omega)) hF2001 (by omega))), (by rw [(zp2 hE2).2]; exact hg2001)⟩, (by rw [(zp2 hE2).2]; exact hP)⟩) (Nat.le_of_ble_eq_true rfl) (Nat.le_of_ble_eq_true rfl) dX7_adds_61

def m_X7_addGain (c : Nat → Nat → Int32) (x : Int32) : Int32 × (Nat → Nat → Int32) := if (r_X7_in x (-200) 200) = 0 then (0, (m_X7_isFull c 1).2) else (if ((m_X7_isFull c 0).1) = 0 then ((m_X7_adds ((m_X7_isFull c 0).2) 1 x 0 0).1, (m_X7_adds ((m_X7_isFull c 0).2) 1 x 0 0).2) else (0, (m_X7_isFull c 0).2))
set_option maxRecDepth 100000 in
set_option maxHeartbeats 400000 in
theorem k_X7_addGain (l : Launch) (E : zE) (b : Nat) (c : Nat → Nat → Int32) (w : Nat → Int64) (en : Nat → Nat) (ea : Nat → Nat → Int32) (x : Int32) (hA : zAc c (zn (c 111 13))) (h0 : c 120 (zn (c 111 13)) = 0) (hg : zG c) : zM l yX7_addGain (.code yX7_addGain cX7_addGain 2 (some .int) :: zAll) (zRm 3 0 0) E b [.ref (b + 111), .int x] (zH E b c w en ea) (fun v9 (_ : Unit) => v9 = some (.int (m_X7_addGain c x).1) ∧ zfr 114 124 111 112 c (m_X7_addGain c x).2 ∧ zG (m_X7_addGain c x).2) (fun _ => zH E b ((m_X7_addGain c x).2) w en ea) 0 0 := by
  refine zM_of "ToneGraphModel" (by decide) rfl rfl (Nat.le_of_ble_eq_true rfl) (L0 := [(0, .ref (b + 111)), (1, .int x)]) rfl ?_
  intro p e s m args below meth c9 B hr hname
  refine zv_aload_n (pc := 0) B 0 rfl dX7_addGain_0 ?_
  refine zv_iload_n (pc := 1) B 1 rfl dX7_addGain_1 ?_
  refine zv_sipush (pc := 2) (v := (-200)) B rfl dX7_addGain_2 ?_
  refine zv_sipush (pc := 5) (v := 200) B rfl dX7_addGain_5 ?_
  refine zv_callS (pc := 8) (As := [.int x, .int (-200), .int 200]) (rest := [.ref (b + 111)]) B (k_X7_in l E b x (-200) 200) (zcwS 3 0 B wm_X7_94 ws_X7_in wn_X7 wcode_X7_in (by decide +kernel) ⟨(Nat.le_of_ble_eq_true rfl), (Nat.le_of_ble_eq_true rfl)⟩) rfl zid rfl (Nat.le_of_ble_eq_true rfl) dX7_addGain_8 ⟨(Nat.le_of_ble_eq_true rfl), (Nat.le_of_ble_eq_true rfl)⟩ (fun v9 u9 hv9 => ?_)
  subst hv9
  refine zv_st (st' := [.int (r_X7_in x (-200) 200), .ref (b + 111)]) rfl ?_
  refine zv_if_ne (pc := 11) (tgt := 18) B dX7_addGain_11 rfl (fun h1 => ?_) (fun h1 => ?_)
  · refine zv_iconst (pc := 18) (v := 0) B rfl dX7_addGain_18 ?_
    refine zv_callV (pc := 19) (As := [.int 0]) (rest := []) B (k_X7_isFull l E b _ _ _ _  0 hg) (zcwV 1 0 B wm_X7_98 wi_X7_isFull wv_X7_isFull wn_X7 wcode_X7_isFull rfl (by decide +kernel) ⟨(Nat.le_of_ble_eq_true rfl), (Nat.le_of_ble_eq_true rfl)⟩) rfl (zrecv B (zat (by decide) (z111 _ _ _)) cl7) zid rfl (Nat.le_of_ble_eq_true rfl) dX7_addGain_19 ⟨(Nat.le_of_ble_eq_true rfl), (Nat.le_of_ble_eq_true rfl)⟩ (fun v9 u9 hv9 => ?_)
    obtain ⟨rfl, hF2002, hg2002⟩ := hv9
    refine zv_st (st' := [.int ((m_X7_isFull c 0).1)]) rfl ?_
    refine zv_if_eq (pc := 22) (tgt := 29) B dX7_addGain_22 rfl (fun h3 => ?_) (fun h3 => ?_)
    · refine zv_aload_n (pc := 29) B 0 rfl dX7_addGain_29 ?_
      refine zv_iconst (pc := 30) (v := 1) B rfl dX7_addGain_30 ?_
      refine zv_iload_n (pc := 31) B 1 rfl dX7_addGain_31 ?_
      refine zv_iconst (pc := 32) (v := 0) B rfl dX7_addGain_32 ?_
      refine zv_iconst (pc := 33) (v := 0) B rfl dX7_addGain_33 ?_
      refine zv_callV (pc := 34) (As := [.int 1, .int x, .int 0, .int 0]) (rest := []) B (k_X7_adds l E b _ _ _ _  1 x 0 0 (by rw [if_f _ _ (by decide)]; exact if_ok hg h3) (by rw [if_f _ _ (by decide)]; exact hA.congr (hF2002 114 (by omega)) (hF2002 118 (by omega)) (hF2002 120 (by omega))) (by rw [if_f _ _ (by decide), hF2002 120 (by omega)]; exact h0) hg2002) (zcwV 4 2 B wm_X7_102 wi_X7_adds wv_X7_adds wn_X7 wcode_X7_adds rfl (by decide +kernel) ⟨(Nat.le_of_ble_eq_true rfl), (Nat.le_of_ble_eq_true rfl)⟩) rfl (zrecv B (zat (by decide) (z111 _ _ _)) cl7) zid rfl (Nat.le_of_ble_eq_true rfl) dX7_addGain_34 ⟨(Nat.le_of_ble_eq_true rfl), (Nat.le_of_ble_eq_true rfl)⟩ (fun v9 u9 hv9 => ?_)
      obtain ⟨rfl, hF2004, hg2004⟩ := hv9
      refine zv_st (st' := [.int ((m_X7_adds ((m_X7_isFull c 0).2) 1 x 0 0).1)]) rfl ?_
      have hE5 : ((m_X7_adds ((m_X7_isFull c 0).2) 1 x 0 0).1, (m_X7_adds ((m_X7_isFull c 0).2) 1 x 0 0).2) = m_X7_addGain c x := (by unfold m_X7_addGain; rw [if_neg h1, if_pos h3])
      exact zv_iret (pc := 37) B ((m_X7_adds ((m_X7_isFull c 0).2) 1 x 0 0).1) hr (fun H hP => ⟨(), ⟨(by rw [(zp2 hE5).1]), (by rw [(zp2 hE5).2]; exact (zfr.call2 (zfr.call2 zfr.refl hF2002 (by omega)) hF2004 (by omega))), (by rw [(zp2 hE5).2]; exact hg2004)⟩, (by rw [(zp2 hE5).2]; exact hP)⟩) (Nat.le_of_ble_eq_true rfl) (Nat.le_of_ble_eq_true rfl) dX7_addGain_37
    · refine zv_iconst (pc := 25) (v := 0) B rfl dX7_addGain_25 ?_
      refine zv_goto (pc := 26) (tgt := 37) B rfl dX7_addGain_26 ?_
      have hE6 : (0, (m_X7_isFull c 0).2) = m_X7_addGain c x := (by unfold m_X7_addGain; rw [if_neg h1, if_neg h3])
      exact zv_iret (pc := 37) B (0) hr (fun H hP => ⟨(), ⟨(by rw [(zp2 hE6).1]), (by rw [(zp2 hE6).2]; exact (zfr.call2 zfr.refl hF2002 (by omega))), (by rw [(zp2 hE6).2]; exact hg2002)⟩, (by rw [(zp2 hE6).2]; exact hP)⟩) (Nat.le_of_ble_eq_true rfl) (Nat.le_of_ble_eq_true rfl) dX7_addGain_37
  · refine zv_iconst (pc := 14) (v := 1) B rfl dX7_addGain_14 ?_
    refine zv_goto (pc := 15) (tgt := 19) B rfl dX7_addGain_15 ?_
    refine zv_callV (pc := 19) (As := [.int 1]) (rest := []) B (k_X7_isFull l E b _ _ _ _  1 hg) (zcwV 1 0 B wm_X7_98 wi_X7_isFull wv_X7_isFull wn_X7 wcode_X7_isFull rfl (by decide +kernel) ⟨(Nat.le_of_ble_eq_true rfl), (Nat.le_of_ble_eq_true rfl)⟩) rfl (zrecv B (zat (by decide) (z111 _ _ _)) cl7) zid rfl (Nat.le_of_ble_eq_true rfl) dX7_addGain_19 ⟨(Nat.le_of_ble_eq_true rfl), (Nat.le_of_ble_eq_true rfl)⟩ (fun v9 u9 hv9 => ?_)
    obtain ⟨rfl, hF2007, hg2007⟩ := hv9
    refine zv_st (st' := [.int ((m_X7_isFull c 1).1)]) rfl ?_
    refine zv_if_eq (pc := 22) (tgt := 29) B dX7_addGain_22 rfl (fun h9 => absurd h9 (if_1 _)) (fun _ => ?_)
    refine zv_iconst (pc := 25) (v := 0) B rfl dX7_addGain_25 ?_
    refine zv_goto (pc := 26) (tgt := 37) B rfl dX7_addGain_26 ?_
    have hE9 : (0, (m_X7_isFull c 1).2) = m_X7_addGain c x := (by unfold m_X7_addGain; rw [if_pos h1])
    exact zv_iret (pc := 37) B (0) hr (fun H hP => ⟨(), ⟨(by rw [(zp2 hE9).1]), (by rw [(zp2 hE9).2]; exact (zfr.call2 zfr.refl hF2007 (by omega))), (by rw [(zp2 hE9).2]; exact hg2007)⟩, (by rw [(zp2 hE9).2]; exact hP)⟩) (Nat.le_of_ble_eq_true rfl) (Nat.le_of_ble_eq_true rfl) dX7_addGain_37

def m_X7_addDelay (c : Nat → Nat → Int32) (x y : Int32) : Int32 × (Nat → Nat → Int32) := if (r_X7_in x 1 60) = 0 then (0, (m_X7_isFull c 1).2) else (if (r_X7_in y (-95) 95) = 0 then (0, (m_X7_isFull c 1).2) else (if ((m_X7_isFull c 0).1) = 0 then ((m_X7_adds ((m_X7_isFull c 0).2) 2 x y 0).1, (m_X7_adds ((m_X7_isFull c 0).2) 2 x y 0).2) else (0, (m_X7_isFull c 0).2)))
set_option maxRecDepth 100000 in
set_option maxHeartbeats 400000 in
theorem k_X7_addDelay (l : Launch) (E : zE) (b : Nat) (c : Nat → Nat → Int32) (w : Nat → Int64) (en : Nat → Nat) (ea : Nat → Nat → Int32) (x y : Int32) (hA : zAc c (zn (c 111 13))) (h0 : c 120 (zn (c 111 13)) = 0) (hg : zG c) : zM l yX7_addDelay (.code yX7_addDelay cX7_addDelay 3 (some .int) :: zAll) (zRm 3 0 0) E b [.ref (b + 111), .int x, .int y] (zH E b c w en ea) (fun v9 (_ : Unit) => v9 = some (.int (m_X7_addDelay c x y).1) ∧ zfr 114 124 111 112 c (m_X7_addDelay c x y).2 ∧ zG (m_X7_addDelay c x y).2) (fun _ => zH E b ((m_X7_addDelay c x y).2) w en ea) 0 0 := by
  refine zM_of "ToneGraphModel" (by decide) rfl rfl (Nat.le_of_ble_eq_true rfl) (L0 := [(0, .ref (b + 111)), (1, .int x), (2, .int y)]) rfl ?_
  intro p e s m args below meth c9 B hr hname
  refine zv_aload_n (pc := 0) B 0 rfl dX7_addDelay_0 ?_
  refine zv_iload_n (pc := 1) B 1 rfl dX7_addDelay_1 ?_
  refine zv_iconst (pc := 2) (v := 1) B rfl dX7_addDelay_2 ?_
  refine zv_bipush (pc := 3) (v := 60) B rfl dX7_addDelay_3 ?_
  refine zv_callS (pc := 5) (As := [.int x, .int 1, .int 60]) (rest := [.ref (b + 111)]) B (k_X7_in l E b x 1 60) (zcwS 3 0 B wm_X7_94 ws_X7_in wn_X7 wcode_X7_in (by decide +kernel) ⟨(Nat.le_of_ble_eq_true rfl), (Nat.le_of_ble_eq_true rfl)⟩) rfl zid rfl (Nat.le_of_ble_eq_true rfl) dX7_addDelay_5 ⟨(Nat.le_of_ble_eq_true rfl), (Nat.le_of_ble_eq_true rfl)⟩ (fun v9 u9 hv9 => ?_)
  subst hv9
  refine zv_st (st' := [.int (r_X7_in x 1 60), .ref (b + 111)]) rfl ?_
  refine zv_if_eq (pc := 8) (tgt := 22) B dX7_addDelay_8 rfl (fun h1 => ?_) (fun h1 => ?_)
  · refine zv_iconst (pc := 22) (v := 1) B rfl dX7_addDelay_22 ?_
    refine zv_goto (pc := 23) (tgt := 27) B rfl dX7_addDelay_23 ?_
    refine zv_callV (pc := 27) (As := [.int 1]) (rest := []) B (k_X7_isFull l E b _ _ _ _  1 hg) (zcwV 1 0 B wm_X7_98 wi_X7_isFull wv_X7_isFull wn_X7 wcode_X7_isFull rfl (by decide +kernel) ⟨(Nat.le_of_ble_eq_true rfl), (Nat.le_of_ble_eq_true rfl)⟩) rfl (zrecv B (zat (by decide) (z111 _ _ _)) cl7) zid rfl (Nat.le_of_ble_eq_true rfl) dX7_addDelay_27 ⟨(Nat.le_of_ble_eq_true rfl), (Nat.le_of_ble_eq_true rfl)⟩ (fun v9 u9 hv9 => ?_)
    obtain ⟨rfl, hF2002, hg2002⟩ := hv9
    refine zv_st (st' := [.int ((m_X7_isFull c 1).1)]) rfl ?_
    refine zv_if_eq (pc := 30) (tgt := 37) B dX7_addDelay_30 rfl (fun h9 => absurd h9 (if_1 _)) (fun _ => ?_)
    refine zv_iconst (pc := 33) (v := 0) B rfl dX7_addDelay_33 ?_
    refine zv_goto (pc := 34) (tgt := 45) B rfl dX7_addDelay_34 ?_
    have hE4 : (0, (m_X7_isFull c 1).2) = m_X7_addDelay c x y := (by unfold m_X7_addDelay; rw [if_pos h1])
    exact zv_iret (pc := 45) B (0) hr (fun H hP => ⟨(), ⟨(by rw [(zp2 hE4).1]), (by rw [(zp2 hE4).2]; exact (zfr.call2 zfr.refl hF2002 (by omega))), (by rw [(zp2 hE4).2]; exact hg2002)⟩, (by rw [(zp2 hE4).2]; exact hP)⟩) (Nat.le_of_ble_eq_true rfl) (Nat.le_of_ble_eq_true rfl) dX7_addDelay_45
  · refine zv_iload_n (pc := 11) B 2 rfl dX7_addDelay_11 ?_
    refine zv_bipush (pc := 12) (v := (-95)) B rfl dX7_addDelay_12 ?_
    refine zv_bipush (pc := 14) (v := 95) B rfl dX7_addDelay_14 ?_
    refine zv_callS (pc := 16) (As := [.int y, .int (-95), .int 95]) (rest := [.ref (b + 111)]) B (k_X7_in l E b y (-95) 95) (zcwS 3 0 B wm_X7_94 ws_X7_in wn_X7 wcode_X7_in (by decide +kernel) ⟨(Nat.le_of_ble_eq_true rfl), (Nat.le_of_ble_eq_true rfl)⟩) rfl zid rfl (Nat.le_of_ble_eq_true rfl) dX7_addDelay_16 ⟨(Nat.le_of_ble_eq_true rfl), (Nat.le_of_ble_eq_true rfl)⟩ (fun v9 u9 hv9 => ?_)
    subst hv9
    refine zv_st (st' := [.int (r_X7_in y (-95) 95), .ref (b + 111)]) rfl ?_
    refine zv_if_ne (pc := 19) (tgt := 26) B dX7_addDelay_19 rfl (fun h5 => ?_) (fun h5 => ?_)
    · refine zv_iconst (pc := 26) (v := 0) B rfl dX7_addDelay_26 ?_
      refine zv_callV (pc := 27) (As := [.int 0]) (rest := []) B (k_X7_isFull l E b _ _ _ _  0 hg) (zcwV 1 0 B wm_X7_98 wi_X7_isFull wv_X7_isFull wn_X7 wcode_X7_isFull rfl (by decide +kernel) ⟨(Nat.le_of_ble_eq_true rfl), (Nat.le_of_ble_eq_true rfl)⟩) rfl (zrecv B (zat (by decide) (z111 _ _ _)) cl7) zid rfl (Nat.le_of_ble_eq_true rfl) dX7_addDelay_27 ⟨(Nat.le_of_ble_eq_true rfl), (Nat.le_of_ble_eq_true rfl)⟩ (fun v9 u9 hv9 => ?_)
      obtain ⟨rfl, hF2006, hg2006⟩ := hv9
      refine zv_st (st' := [.int ((m_X7_isFull c 0).1)]) rfl ?_
      refine zv_if_eq (pc := 30) (tgt := 37) B dX7_addDelay_30 rfl (fun h7 => ?_) (fun h7 => ?_)
      · refine zv_aload_n (pc := 37) B 0 rfl dX7_addDelay_37 ?_
        refine zv_iconst (pc := 38) (v := 2) B rfl dX7_addDelay_38 ?_
        refine zv_iload_n (pc := 39) B 1 rfl dX7_addDelay_39 ?_
        refine zv_iload_n (pc := 40) B 2 rfl dX7_addDelay_40 ?_
        refine zv_iconst (pc := 41) (v := 0) B rfl dX7_addDelay_41 ?_
        refine zv_callV (pc := 42) (As := [.int 2, .int x, .int y, .int 0]) (rest := []) B (k_X7_adds l E b _ _ _ _  2 x y 0 (by rw [if_f _ _ (by decide)]; exact if_ok hg h7) (by rw [if_f _ _ (by decide)]; exact hA.congr (hF2006 114 (by omega)) (hF2006 118 (by omega)) (hF2006 120 (by omega))) (by rw [if_f _ _ (by decide), hF2006 120 (by omega)]; exact h0) hg2006) (zcwV 4 2 B wm_X7_102 wi_X7_adds wv_X7_adds wn_X7 wcode_X7_adds rfl (by decide +kernel) ⟨(Nat.le_of_ble_eq_true rfl), (Nat.le_of_ble_eq_true rfl)⟩) rfl (zrecv B (zat (by decide) (z111 _ _ _)) cl7) zid rfl (Nat.le_of_ble_eq_true rfl) dX7_addDelay_42 ⟨(Nat.le_of_ble_eq_true rfl), (Nat.le_of_ble_eq_true rfl)⟩ (fun v9 u9 hv9 => ?_)
        obtain ⟨rfl, hF2008, hg2008⟩ := hv9
        refine zv_st (st' := [.int ((m_X7_adds ((m_X7_isFull c 0).2) 2 x y 0).1)]) rfl ?_
        have hE9 : ((m_X7_adds ((m_X7_isFull c 0).2) 2 x y 0).1, (m_X7_adds ((m_X7_isFull c 0).2) 2 x y 0).2) = m_X7_addDelay c x y := (by unfold m_X7_addDelay; rw [if_neg h1, if_neg h5, if_pos h7])
        exact zv_iret (pc := 45) B ((m_X7_adds ((m_X7_isFull c 0).2) 2 x y 0).1) hr (fun H hP => ⟨(), ⟨(by rw [(zp2 hE9).1]), (by rw [(zp2 hE9).2]; exact (zfr.call2 (zfr.call2 zfr.refl hF2006 (by omega)) hF2008 (by omega))), (by rw [(zp2 hE9).2]; exact hg2008)⟩, (by rw [(zp2 hE9).2]; exact hP)⟩) (Nat.le_of_ble_eq_true rfl) (Nat.le_of_ble_eq_true rfl) dX7_addDelay_45
      · refine zv_iconst (pc := 33) (v := 0) B rfl dX7_addDelay_33 ?_
        refine zv_goto (pc := 34) (tgt := 45) B rfl dX7_addDelay_34 ?_
        have hE10 : (0, (m_X7_isFull c 0).2) = m_X7_addDelay c x y := (by unfold m_X7_addDelay; rw [if_neg h1, if_neg h5, if_neg h7])
        exact zv_iret (pc := 45) B (0) hr (fun H hP => ⟨(), ⟨(by rw [(zp2 hE10).1]), (by rw [(zp2 hE10).2]; exact (zfr.call2 zfr.refl hF2006 (by omega))), (by rw [(zp2 hE10).2]; exact hg2006)⟩, (by rw [(zp2 hE10).2]; exact hP)⟩) (Nat.le_of_ble_eq_true rfl) (Nat.le_of_ble_eq_true rfl) dX7_addDelay_45
    · refine zv_iconst (pc := 22) (v := 1) B rfl dX7_addDelay_22 ?_
      refine zv_goto (pc := 23) (tgt := 27) B rfl dX7_addDelay_23 ?_
      refine zv_callV (pc := 27) (As := [.int 1]) (rest := []) B (k_X7_isFull l E b _ _ _ _  1 hg) (zcwV 1 0 B wm_X7_98 wi_X7_isFull wv_X7_isFull wn_X7 wcode_X7_isFull rfl (by decide +kernel) ⟨(Nat.le_of_ble_eq_true rfl), (Nat.le_of_ble_eq_true rfl)⟩) rfl (zrecv B (zat (by decide) (z111 _ _ _)) cl7) zid rfl (Nat.le_of_ble_eq_true rfl) dX7_addDelay_27 ⟨(Nat.le_of_ble_eq_true rfl), (Nat.le_of_ble_eq_true rfl)⟩ (fun v9 u9 hv9 => ?_)
      obtain ⟨rfl, hF2011, hg2011⟩ := hv9
      refine zv_st (st' := [.int ((m_X7_isFull c 1).1)]) rfl ?_
      refine zv_if_eq (pc := 30) (tgt := 37) B dX7_addDelay_30 rfl (fun h9 => absurd h9 (if_1 _)) (fun _ => ?_)
      refine zv_iconst (pc := 33) (v := 0) B rfl dX7_addDelay_33 ?_
      refine zv_goto (pc := 34) (tgt := 45) B rfl dX7_addDelay_34 ?_
      have hE13 : (0, (m_X7_isFull c 1).2) = m_X7_addDelay c x y := (by unfold m_X7_addDelay; rw [if_neg h1, if_pos h5])
      exact zv_iret (pc := 45) B (0) hr (fun H hP => ⟨(), ⟨(by rw [(zp2 hE13).1]), (by rw [(zp2 hE13).2]; exact (zfr.call2 zfr.refl hF2011 (by omega))), (by rw [(zp2 hE13).2]; exact hg2011)⟩, (by rw [(zp2 hE13).2]; exact hP)⟩) (Nat.le_of_ble_eq_true rfl) (Nat.le_of_ble_eq_true rfl) dX7_addDelay_45

def m_X7_addFilter (c : Nat → Nat → Int32) (x y z : Int32) : Int32 × (Nat → Nat → Int32) := if (r_X7_in x (-64) 64) = 0 then (0, (m_X7_isFull c 1).2) else (if (r_X7_in y (-64) 64) = 0 then (0, (m_X7_isFull c 1).2) else (if (r_X7_in z (-64) 64) = 0 then (0, (m_X7_isFull c 1).2) else (if ((m_X7_isFull c 0).1) = 0 then ((m_X7_adds ((m_X7_isFull c 0).2) 3 x y z).1, (m_X7_adds ((m_X7_isFull c 0).2) 3 x y z).2) else (0, (m_X7_isFull c 0).2))))
set_option maxRecDepth 100000 in
set_option maxHeartbeats 400000 in
theorem k_X7_addFilter (l : Launch) (E : zE) (b : Nat) (c : Nat → Nat → Int32) (w : Nat → Int64) (en : Nat → Nat) (ea : Nat → Nat → Int32) (x y z : Int32) (hA : zAc c (zn (c 111 13))) (h0 : c 120 (zn (c 111 13)) = 0) (hg : zG c) : zM l yX7_addFilter (.code yX7_addFilter cX7_addFilter 4 (some .int) :: zAll) (zRm 3 0 0) E b [.ref (b + 111), .int x, .int y, .int z] (zH E b c w en ea) (fun v9 (_ : Unit) => v9 = some (.int (m_X7_addFilter c x y z).1) ∧ zfr 114 124 111 112 c (m_X7_addFilter c x y z).2 ∧ zG (m_X7_addFilter c x y z).2) (fun _ => zH E b ((m_X7_addFilter c x y z).2) w en ea) 0 0 := by
  refine zM_of "ToneGraphModel" (by decide) rfl rfl (Nat.le_of_ble_eq_true rfl) (L0 := [(0, .ref (b + 111)), (1, .int x), (2, .int y), (3, .int z)]) rfl ?_
  intro p e s m args below meth c9 B hr hname
  refine zv_aload_n (pc := 0) B 0 rfl dX7_addFilter_0 ?_
  refine zv_iload_n (pc := 1) B 1 rfl dX7_addFilter_1 ?_
  refine zv_bipush (pc := 2) (v := (-64)) B rfl dX7_addFilter_2 ?_
  refine zv_bipush (pc := 4) (v := 64) B rfl dX7_addFilter_4 ?_
  refine zv_callS (pc := 6) (As := [.int x, .int (-64), .int 64]) (rest := [.ref (b + 111)]) B (k_X7_in l E b x (-64) 64) (zcwS 3 0 B wm_X7_94 ws_X7_in wn_X7 wcode_X7_in (by decide +kernel) ⟨(Nat.le_of_ble_eq_true rfl), (Nat.le_of_ble_eq_true rfl)⟩) rfl zid rfl (Nat.le_of_ble_eq_true rfl) dX7_addFilter_6 ⟨(Nat.le_of_ble_eq_true rfl), (Nat.le_of_ble_eq_true rfl)⟩ (fun v9 u9 hv9 => ?_)
  subst hv9
  refine zv_st (st' := [.int (r_X7_in x (-64) 64), .ref (b + 111)]) rfl ?_
  refine zv_if_eq (pc := 9) (tgt := 34) B dX7_addFilter_9 rfl (fun h1 => ?_) (fun h1 => ?_)
  · refine zv_iconst (pc := 34) (v := 1) B rfl dX7_addFilter_34 ?_
    refine zv_goto (pc := 35) (tgt := 39) B rfl dX7_addFilter_35 ?_
    refine zv_callV (pc := 39) (As := [.int 1]) (rest := []) B (k_X7_isFull l E b _ _ _ _  1 hg) (zcwV 1 0 B wm_X7_98 wi_X7_isFull wv_X7_isFull wn_X7 wcode_X7_isFull rfl (by decide +kernel) ⟨(Nat.le_of_ble_eq_true rfl), (Nat.le_of_ble_eq_true rfl)⟩) rfl (zrecv B (zat (by decide) (z111 _ _ _)) cl7) zid rfl (Nat.le_of_ble_eq_true rfl) dX7_addFilter_39 ⟨(Nat.le_of_ble_eq_true rfl), (Nat.le_of_ble_eq_true rfl)⟩ (fun v9 u9 hv9 => ?_)
    obtain ⟨rfl, hF2002, hg2002⟩ := hv9
    refine zv_st (st' := [.int ((m_X7_isFull c 1).1)]) rfl ?_
    refine zv_if_eq (pc := 42) (tgt := 49) B dX7_addFilter_42 rfl (fun h9 => absurd h9 (if_1 _)) (fun _ => ?_)
    refine zv_iconst (pc := 45) (v := 0) B rfl dX7_addFilter_45 ?_
    refine zv_goto (pc := 46) (tgt := 57) B rfl dX7_addFilter_46 ?_
    have hE4 : (0, (m_X7_isFull c 1).2) = m_X7_addFilter c x y z := (by unfold m_X7_addFilter; rw [if_pos h1])
    exact zv_iret (pc := 57) B (0) hr (fun H hP => ⟨(), ⟨(by rw [(zp2 hE4).1]), (by rw [(zp2 hE4).2]; exact (zfr.call2 zfr.refl hF2002 (by omega))), (by rw [(zp2 hE4).2]; exact hg2002)⟩, (by rw [(zp2 hE4).2]; exact hP)⟩) (Nat.le_of_ble_eq_true rfl) (Nat.le_of_ble_eq_true rfl) dX7_addFilter_57
  · refine zv_iload_n (pc := 12) B 2 rfl dX7_addFilter_12 ?_
    refine zv_bipush (pc := 13) (v := (-64)) B rfl dX7_addFilter_13 ?_
    refine zv_bipush (pc := 15) (v := 64) B rfl dX7_addFilter_15 ?_
    refine zv_callS (pc := 17) (As := [.int y, .int (-64), .int 64]) (rest := [.ref (b + 111)]) B (k_X7_in l E b y (-64) 64) (zcwS 3 0 B wm_X7_94 ws_X7_in wn_X7 wcode_X7_in (by decide +kernel) ⟨(Nat.le_of_ble_eq_true rfl), (Nat.le_of_ble_eq_true rfl)⟩) rfl zid rfl (Nat.le_of_ble_eq_true rfl) dX7_addFilter_17 ⟨(Nat.le_of_ble_eq_true rfl), (Nat.le_of_ble_eq_true rfl)⟩ (fun v9 u9 hv9 => ?_)
    subst hv9
    refine zv_st (st' := [.int (r_X7_in y (-64) 64), .ref (b + 111)]) rfl ?_
    refine zv_if_eq (pc := 20) (tgt := 34) B dX7_addFilter_20 rfl (fun h5 => ?_) (fun h5 => ?_)
    · refine zv_iconst (pc := 34) (v := 1) B rfl dX7_addFilter_34 ?_
      refine zv_goto (pc := 35) (tgt := 39) B rfl dX7_addFilter_35 ?_
      refine zv_callV (pc := 39) (As := [.int 1]) (rest := []) B (k_X7_isFull l E b _ _ _ _  1 hg) (zcwV 1 0 B wm_X7_98 wi_X7_isFull wv_X7_isFull wn_X7 wcode_X7_isFull rfl (by decide +kernel) ⟨(Nat.le_of_ble_eq_true rfl), (Nat.le_of_ble_eq_true rfl)⟩) rfl (zrecv B (zat (by decide) (z111 _ _ _)) cl7) zid rfl (Nat.le_of_ble_eq_true rfl) dX7_addFilter_39 ⟨(Nat.le_of_ble_eq_true rfl), (Nat.le_of_ble_eq_true rfl)⟩ (fun v9 u9 hv9 => ?_)
      obtain ⟨rfl, hF2006, hg2006⟩ := hv9
      refine zv_st (st' := [.int ((m_X7_isFull c 1).1)]) rfl ?_
      refine zv_if_eq (pc := 42) (tgt := 49) B dX7_addFilter_42 rfl (fun h9 => absurd h9 (if_1 _)) (fun _ => ?_)
      refine zv_iconst (pc := 45) (v := 0) B rfl dX7_addFilter_45 ?_
      refine zv_goto (pc := 46) (tgt := 57) B rfl dX7_addFilter_46 ?_
      have hE8 : (0, (m_X7_isFull c 1).2) = m_X7_addFilter c x y z := (by unfold m_X7_addFilter; rw [if_neg h1, if_pos h5])
      exact zv_iret (pc := 57) B (0) hr (fun H hP => ⟨(), ⟨(by rw [(zp2 hE8).1]), (by rw [(zp2 hE8).2]; exact (zfr.call2 zfr.refl hF2006 (by omega))), (by rw [(zp2 hE8).2]; exact hg2006)⟩, (by rw [(zp2 hE8).2]; exact hP)⟩) (Nat.le_of_ble_eq_true rfl) (Nat.le_of_ble_eq_true rfl) dX7_addFilter_57
    · refine zv_iload_n (pc := 23) B 3 rfl dX7_addFilter_23 ?_
      refine zv_bipush (pc := 24) (v := (-64)) B rfl dX7_addFilter_24 ?_
      refine zv_bipush (pc := 26) (v := 64) B rfl dX7_addFilter_26 ?_
      refine zv_callS (pc := 28) (As := [.int z, .int (-64), .int 64]) (rest := [.ref (b + 111)]) B (k_X7_in l E b z (-64) 64) (zcwS 3 0 B wm_X7_94 ws_X7_in wn_X7 wcode_X7_in (by decide +kernel) ⟨(Nat.le_of_ble_eq_true rfl), (Nat.le_of_ble_eq_true rfl)⟩) rfl zid rfl (Nat.le_of_ble_eq_true rfl) dX7_addFilter_28 ⟨(Nat.le_of_ble_eq_true rfl), (Nat.le_of_ble_eq_true rfl)⟩ (fun v9 u9 hv9 => ?_)
      subst hv9
      refine zv_st (st' := [.int (r_X7_in z (-64) 64), .ref (b + 111)]) rfl ?_
      refine zv_if_ne (pc := 31) (tgt := 38) B dX7_addFilter_31 rfl (fun h9 => ?_) (fun h9 => ?_)
      · refine zv_iconst (pc := 38) (v := 0) B rfl dX7_addFilter_38 ?_
        refine zv_callV (pc := 39) (As := [.int 0]) (rest := []) B (k_X7_isFull l E b _ _ _ _  0 hg) (zcwV 1 0 B wm_X7_98 wi_X7_isFull wv_X7_isFull wn_X7 wcode_X7_isFull rfl (by decide +kernel) ⟨(Nat.le_of_ble_eq_true rfl), (Nat.le_of_ble_eq_true rfl)⟩) rfl (zrecv B (zat (by decide) (z111 _ _ _)) cl7) zid rfl (Nat.le_of_ble_eq_true rfl) dX7_addFilter_39 ⟨(Nat.le_of_ble_eq_true rfl), (Nat.le_of_ble_eq_true rfl)⟩ (fun v9 u9 hv9 => ?_)
        obtain ⟨rfl, hF2010, hg2010⟩ := hv9
        refine zv_st (st' := [.int ((m_X7_isFull c 0).1)]) rfl ?_
        refine zv_if_eq (pc := 42) (tgt := 49) B dX7_addFilter_42 rfl (fun h11 => ?_) (fun h11 => ?_)
        · refine zv_aload_n (pc := 49) B 0 rfl dX7_addFilter_49 ?_
          refine zv_iconst (pc := 50) (v := 3) B rfl dX7_addFilter_50 ?_
          refine zv_iload_n (pc := 51) B 1 rfl dX7_addFilter_51 ?_
          refine zv_iload_n (pc := 52) B 2 rfl dX7_addFilter_52 ?_
          refine zv_iload_n (pc := 53) B 3 rfl dX7_addFilter_53 ?_
          refine zv_callV (pc := 54) (As := [.int 3, .int x, .int y, .int z]) (rest := []) B (k_X7_adds l E b _ _ _ _  3 x y z (by rw [if_f _ _ (by decide)]; exact if_ok hg h11) (by rw [if_f _ _ (by decide)]; exact hA.congr (hF2010 114 (by omega)) (hF2010 118 (by omega)) (hF2010 120 (by omega))) (by rw [if_f _ _ (by decide), hF2010 120 (by omega)]; exact h0) hg2010) (zcwV 4 2 B wm_X7_102 wi_X7_adds wv_X7_adds wn_X7 wcode_X7_adds rfl (by decide +kernel) ⟨(Nat.le_of_ble_eq_true rfl), (Nat.le_of_ble_eq_true rfl)⟩) rfl (zrecv B (zat (by decide) (z111 _ _ _)) cl7) zid rfl (Nat.le_of_ble_eq_true rfl) dX7_addFilter_54 ⟨(Nat.le_of_ble_eq_true rfl), (Nat.le_of_ble_eq_true rfl)⟩ (fun v9 u9 hv9 => ?_)
          obtain ⟨rfl, hF2012, hg2012⟩ := hv9
          refine zv_st (st' := [.int ((m_X7_adds ((m_X7_isFull c 0).2) 3 x y z).1)]) rfl ?_
          have hE13 : ((m_X7_adds ((m_X7_isFull c 0).2) 3 x y z).1, (m_X7_adds ((m_X7_isFull c 0).2) 3 x y z).2) = m_X7_addFilter c x y z := (by unfold m_X7_addFilter; rw [if_neg h1, if_neg h5, if_neg h9, if_pos h11])
          exact zv_iret (pc := 57) B ((m_X7_adds ((m_X7_isFull c 0).2) 3 x y z).1) hr (fun H hP => ⟨(), ⟨(by rw [(zp2 hE13).1]), (by rw [(zp2 hE13).2]; exact (zfr.call2 (zfr.call2 zfr.refl hF2010 (by omega)) hF2012 (by omega))), (by rw [(zp2 hE13).2]; exact hg2012)⟩, (by rw [(zp2 hE13).2]; exact hP)⟩) (Nat.le_of_ble_eq_true rfl) (Nat.le_of_ble_eq_true rfl) dX7_addFilter_57
        · refine zv_iconst (pc := 45) (v := 0) B rfl dX7_addFilter_45 ?_
          refine zv_goto (pc := 46) (tgt := 57) B rfl dX7_addFilter_46 ?_
          have hE14 : (0, (m_X7_isFull c 0).2) = m_X7_addFilter c x y z := (by unfold m_X7_addFilter; rw [if_neg h1, if_neg h5, if_neg h9, if_neg h11])
          exact zv_iret (pc := 57) B (0) hr (fun H hP => ⟨(), ⟨(by rw [(zp2 hE14).1]), (by rw [(zp2 hE14).2]; exact (zfr.call2 zfr.refl hF2010 (by omega))), (by rw [(zp2 hE14).2]; exact hg2010)⟩, (by rw [(zp2 hE14).2]; exact hP)⟩) (Nat.le_of_ble_eq_true rfl) (Nat.le_of_ble_eq_true rfl) dX7_addFilter_57
      · refine zv_iconst (pc := 34) (v := 1) B rfl dX7_addFilter_34 ?_
        refine zv_goto (pc := 35) (tgt := 39) B rfl dX7_addFilter_35 ?_
        refine zv_callV (pc := 39) (As := [.int 1]) (rest := []) B (k_X7_isFull l E b _ _ _ _  1 hg) (zcwV 1 0 B wm_X7_98 wi_X7_isFull wv_X7_isFull wn_X7 wcode_X7_isFull rfl (by decide +kernel) ⟨(Nat.le_of_ble_eq_true rfl), (Nat.le_of_ble_eq_true rfl)⟩) rfl (zrecv B (zat (by decide) (z111 _ _ _)) cl7) zid rfl (Nat.le_of_ble_eq_true rfl) dX7_addFilter_39 ⟨(Nat.le_of_ble_eq_true rfl), (Nat.le_of_ble_eq_true rfl)⟩ (fun v9 u9 hv9 => ?_)
        obtain ⟨rfl, hF2015, hg2015⟩ := hv9
        refine zv_st (st' := [.int ((m_X7_isFull c 1).1)]) rfl ?_
        refine zv_if_eq (pc := 42) (tgt := 49) B dX7_addFilter_42 rfl (fun h9 => absurd h9 (if_1 _)) (fun _ => ?_)
        refine zv_iconst (pc := 45) (v := 0) B rfl dX7_addFilter_45 ?_
        refine zv_goto (pc := 46) (tgt := 57) B rfl dX7_addFilter_46 ?_
        have hE17 : (0, (m_X7_isFull c 1).2) = m_X7_addFilter c x y z := (by unfold m_X7_addFilter; rw [if_neg h1, if_neg h5, if_pos h9])
        exact zv_iret (pc := 57) B (0) hr (fun H hP => ⟨(), ⟨(by rw [(zp2 hE17).1]), (by rw [(zp2 hE17).2]; exact (zfr.call2 zfr.refl hF2015 (by omega))), (by rw [(zp2 hE17).2]; exact hg2015)⟩, (by rw [(zp2 hE17).2]; exact hP)⟩) (Nat.le_of_ble_eq_true rfl) (Nat.le_of_ble_eq_true rfl) dX7_addFilter_57

def m_X7_addBus (c : Nat → Nat → Int32) (x : Int32) : Int32 × (Nat → Nat → Int32) := if (r_X7_in x 0 32767) = 0 then (0, (m_X7_isFull c 1).2) else (if ((m_X7_isFull c 0).1) = 0 then ((m_X7_adds ((m_X7_isFull c 0).2) 4 x 0 0).1, (m_X7_adds ((m_X7_isFull c 0).2) 4 x 0 0).2) else (0, (m_X7_isFull c 0).2))
set_option maxRecDepth 100000 in
set_option maxHeartbeats 400000 in
theorem k_X7_addBus (l : Launch) (E : zE) (b : Nat) (c : Nat → Nat → Int32) (w : Nat → Int64) (en : Nat → Nat) (ea : Nat → Nat → Int32) (x : Int32) (hA : zAc c (zn (c 111 13))) (h0 : c 120 (zn (c 111 13)) = 0) (hg : zG c) : zM l yX7_addBus (.code yX7_addBus cX7_addBus 2 (some .int) :: zAll) (zRm 3 0 0) E b [.ref (b + 111), .int x] (zH E b c w en ea) (fun v9 (_ : Unit) => v9 = some (.int (m_X7_addBus c x).1) ∧ zfr 114 124 111 112 c (m_X7_addBus c x).2 ∧ zG (m_X7_addBus c x).2) (fun _ => zH E b ((m_X7_addBus c x).2) w en ea) 0 0 := by
  refine zM_of "ToneGraphModel" (by decide) rfl rfl (Nat.le_of_ble_eq_true rfl) (L0 := [(0, .ref (b + 111)), (1, .int x)]) rfl ?_
  intro p e s m args below meth c9 B hr hname
  refine zv_aload_n (pc := 0) B 0 rfl dX7_addBus_0 ?_
  refine zv_iload_n (pc := 1) B 1 rfl dX7_addBus_1 ?_
  refine zv_iconst (pc := 2) (v := 0) B rfl dX7_addBus_2 ?_
  refine zv_sipush (pc := 3) (v := 32767) B rfl dX7_addBus_3 ?_
  refine zv_callS (pc := 6) (As := [.int x, .int 0, .int 32767]) (rest := [.ref (b + 111)]) B (k_X7_in l E b x 0 32767) (zcwS 3 0 B wm_X7_94 ws_X7_in wn_X7 wcode_X7_in (by decide +kernel) ⟨(Nat.le_of_ble_eq_true rfl), (Nat.le_of_ble_eq_true rfl)⟩) rfl zid rfl (Nat.le_of_ble_eq_true rfl) dX7_addBus_6 ⟨(Nat.le_of_ble_eq_true rfl), (Nat.le_of_ble_eq_true rfl)⟩ (fun v9 u9 hv9 => ?_)
  subst hv9
  refine zv_st (st' := [.int (r_X7_in x 0 32767), .ref (b + 111)]) rfl ?_
  refine zv_if_ne (pc := 9) (tgt := 16) B dX7_addBus_9 rfl (fun h1 => ?_) (fun h1 => ?_)
  · refine zv_iconst (pc := 16) (v := 0) B rfl dX7_addBus_16 ?_
    refine zv_callV (pc := 17) (As := [.int 0]) (rest := []) B (k_X7_isFull l E b _ _ _ _  0 hg) (zcwV 1 0 B wm_X7_98 wi_X7_isFull wv_X7_isFull wn_X7 wcode_X7_isFull rfl (by decide +kernel) ⟨(Nat.le_of_ble_eq_true rfl), (Nat.le_of_ble_eq_true rfl)⟩) rfl (zrecv B (zat (by decide) (z111 _ _ _)) cl7) zid rfl (Nat.le_of_ble_eq_true rfl) dX7_addBus_17 ⟨(Nat.le_of_ble_eq_true rfl), (Nat.le_of_ble_eq_true rfl)⟩ (fun v9 u9 hv9 => ?_)
    obtain ⟨rfl, hF2002, hg2002⟩ := hv9
    refine zv_st (st' := [.int ((m_X7_isFull c 0).1)]) rfl ?_
    refine zv_if_eq (pc := 20) (tgt := 27) B dX7_addBus_20 rfl (fun h3 => ?_) (fun h3 => ?_)
    · refine zv_aload_n (pc := 27) B 0 rfl dX7_addBus_27 ?_
      refine zv_iconst (pc := 28) (v := 4) B rfl dX7_addBus_28 ?_
      refine zv_iload_n (pc := 29) B 1 rfl dX7_addBus_29 ?_
      refine zv_iconst (pc := 30) (v := 0) B rfl dX7_addBus_30 ?_
      refine zv_iconst (pc := 31) (v := 0) B rfl dX7_addBus_31 ?_
      refine zv_callV (pc := 32) (As := [.int 4, .int x, .int 0, .int 0]) (rest := []) B (k_X7_adds l E b _ _ _ _  4 x 0 0 (by rw [if_f _ _ (by decide)]; exact if_ok hg h3) (by rw [if_f _ _ (by decide)]; exact hA.congr (hF2002 114 (by omega)) (hF2002 118 (by omega)) (hF2002 120 (by omega))) (by rw [if_f _ _ (by decide), hF2002 120 (by omega)]; exact h0) hg2002) (zcwV 4 2 B wm_X7_102 wi_X7_adds wv_X7_adds wn_X7 wcode_X7_adds rfl (by decide +kernel) ⟨(Nat.le_of_ble_eq_true rfl), (Nat.le_of_ble_eq_true rfl)⟩) rfl (zrecv B (zat (by decide) (z111 _ _ _)) cl7) zid rfl (Nat.le_of_ble_eq_true rfl) dX7_addBus_32 ⟨(Nat.le_of_ble_eq_true rfl), (Nat.le_of_ble_eq_true rfl)⟩ (fun v9 u9 hv9 => ?_)
      obtain ⟨rfl, hF2004, hg2004⟩ := hv9
      refine zv_st (st' := [.int ((m_X7_adds ((m_X7_isFull c 0).2) 4 x 0 0).1)]) rfl ?_
      have hE5 : ((m_X7_adds ((m_X7_isFull c 0).2) 4 x 0 0).1, (m_X7_adds ((m_X7_isFull c 0).2) 4 x 0 0).2) = m_X7_addBus c x := (by unfold m_X7_addBus; rw [if_neg h1, if_pos h3])
      exact zv_iret (pc := 35) B ((m_X7_adds ((m_X7_isFull c 0).2) 4 x 0 0).1) hr (fun H hP => ⟨(), ⟨(by rw [(zp2 hE5).1]), (by rw [(zp2 hE5).2]; exact (zfr.call2 (zfr.call2 zfr.refl hF2002 (by omega)) hF2004 (by omega))), (by rw [(zp2 hE5).2]; exact hg2004)⟩, (by rw [(zp2 hE5).2]; exact hP)⟩) (Nat.le_of_ble_eq_true rfl) (Nat.le_of_ble_eq_true rfl) dX7_addBus_35
    · refine zv_iconst (pc := 23) (v := 0) B rfl dX7_addBus_23 ?_
      refine zv_goto (pc := 24) (tgt := 35) B rfl dX7_addBus_24 ?_
      have hE6 : (0, (m_X7_isFull c 0).2) = m_X7_addBus c x := (by unfold m_X7_addBus; rw [if_neg h1, if_neg h3])
      exact zv_iret (pc := 35) B (0) hr (fun H hP => ⟨(), ⟨(by rw [(zp2 hE6).1]), (by rw [(zp2 hE6).2]; exact (zfr.call2 zfr.refl hF2002 (by omega))), (by rw [(zp2 hE6).2]; exact hg2002)⟩, (by rw [(zp2 hE6).2]; exact hP)⟩) (Nat.le_of_ble_eq_true rfl) (Nat.le_of_ble_eq_true rfl) dX7_addBus_35
  · refine zv_iconst (pc := 12) (v := 1) B rfl dX7_addBus_12 ?_
    refine zv_goto (pc := 13) (tgt := 17) B rfl dX7_addBus_13 ?_
    refine zv_callV (pc := 17) (As := [.int 1]) (rest := []) B (k_X7_isFull l E b _ _ _ _  1 hg) (zcwV 1 0 B wm_X7_98 wi_X7_isFull wv_X7_isFull wn_X7 wcode_X7_isFull rfl (by decide +kernel) ⟨(Nat.le_of_ble_eq_true rfl), (Nat.le_of_ble_eq_true rfl)⟩) rfl (zrecv B (zat (by decide) (z111 _ _ _)) cl7) zid rfl (Nat.le_of_ble_eq_true rfl) dX7_addBus_17 ⟨(Nat.le_of_ble_eq_true rfl), (Nat.le_of_ble_eq_true rfl)⟩ (fun v9 u9 hv9 => ?_)
    obtain ⟨rfl, hF2007, hg2007⟩ := hv9
    refine zv_st (st' := [.int ((m_X7_isFull c 1).1)]) rfl ?_
    refine zv_if_eq (pc := 20) (tgt := 27) B dX7_addBus_20 rfl (fun h9 => absurd h9 (if_1 _)) (fun _ => ?_)
    refine zv_iconst (pc := 23) (v := 0) B rfl dX7_addBus_23 ?_
    refine zv_goto (pc := 24) (tgt := 35) B rfl dX7_addBus_24 ?_
    have hE9 : (0, (m_X7_isFull c 1).2) = m_X7_addBus c x := (by unfold m_X7_addBus; rw [if_pos h1])
    exact zv_iret (pc := 35) B (0) hr (fun H hP => ⟨(), ⟨(by rw [(zp2 hE9).1]), (by rw [(zp2 hE9).2]; exact (zfr.call2 zfr.refl hF2007 (by omega))), (by rw [(zp2 hE9).2]; exact hg2007)⟩, (by rw [(zp2 hE9).2]; exact hP)⟩) (Nat.le_of_ble_eq_true rfl) (Nat.le_of_ble_eq_true rfl) dX7_addBus_35

def m_X7_connect (c : Nat → Nat → Int32) (x y z : Int32) : Int32 × (Nat → Nat → Int32) := if (m_X7_isNode c x) = 0 then (0, zup c 111 12 1) else (if (m_X7_isNode c y) = 0 then (0, zup c 111 12 1) else (if z = 0 then (0, zup c 111 12 2) else (if (r_X7_in z (-100) 100) = 0 then (0, zup c 111 12 2) else (if 0 ≤ (m_X7_wire c x (zn y)) then (0, zup c 111 12 3) else (if (c 120 (zn y)) = 4 then (0, zup c 111 12 3) else (if y = 0 then (0, zup c 111 12 4) else (if ((m_X7_leads c (zn y) (zn x)).1) = 0 then (nI (zn (c 120 (zn y)) + 1), (m_X7_lays (zup (zup (zup (zup ((m_X7_leads c (zn y) (zn x)).2) 111 12 0) 118 (4 * zn y + zn (c 120 (zn y))) x) 119 (4 * zn y + zn (c 120 (zn y))) z) 120 (zn y) (nI (zn (c 120 (zn y)) + 1))))) else (0, zup ((m_X7_leads c (zn y) (zn x)).2) 111 12 4))))))))
set_option maxRecDepth 100000 in
set_option maxHeartbeats 400000 in
theorem k_X7_connect (l : Launch) (E : zE) (b : Nat) (c : Nat → Nat → Int32) (w : Nat → Int64) (en : Nat → Nat) (ea : Nat → Nat → Int32) (x y z : Int32) (hA : zAc c (zn (c 111 13))) (hg : zG c) : zM l yX7_connect (.code yX7_connect cX7_connect 4 (some .int) :: zAll) (zRm 2 0 0) E b [.ref (b + 111), .int x, .int y, .int z] (zH E b c w en ea) (fun v9 (_ : Unit) => v9 = some (.int (m_X7_connect c x y z).1) ∧ zfr 118 124 111 112 c (m_X7_connect c x y z).2 ∧ zG (m_X7_connect c x y z).2) (fun _ => zH E b ((m_X7_connect c x y z).2) w en ea) 0 0 := by
  refine zM_of "ToneGraphModel" (by decide) rfl rfl (Nat.le_of_ble_eq_true rfl) (L0 := [(0, .ref (b + 111)), (1, .int x), (2, .int y), (3, .int z)]) rfl ?_
  intro p e s m args below meth c9 B hr hname
  refine zv_aload_n (pc := 0) B 0 rfl dX7_connect_0 ?_
  refine zv_aload_n (pc := 1) B 0 rfl dX7_connect_1 ?_
  refine zv_iload_n (pc := 2) B 1 rfl dX7_connect_2 ?_
  refine zv_callV (pc := 3) (As := [.int x]) (rest := [.ref (b + 111)]) B (k_X7_isNode l E b _ _ _ _  x) (zcwV 1 1 B wm_X7_110 wi_X7_isNode wv_X7_isNode wn_X7 wcode_X7_isNode rfl (by decide +kernel) ⟨(Nat.le_of_ble_eq_true rfl), (Nat.le_of_ble_eq_true rfl)⟩) rfl (zrecv B (zat (by decide) (z111 _ _ _)) cl7) zid rfl (Nat.le_of_ble_eq_true rfl) dX7_connect_3 ⟨(Nat.le_of_ble_eq_true rfl), (Nat.le_of_ble_eq_true rfl)⟩ (fun v9 u9 hv9 => ?_)
  subst hv9
  refine zv_st (st' := [.int (m_X7_isNode c x), .ref (b + 111)]) rfl ?_
  refine zv_if_eq (pc := 6) (tgt := 17) B dX7_connect_6 rfl (fun h1 => ?_) (fun h1 => ?_)
  · refine zv_iconst (pc := 17) (v := 1) B rfl dX7_connect_17 ?_
    refine zv_goto (pc := 18) (tgt := 81) B rfl dX7_connect_18 ?_
    refine zs_put9 (pc := 81) (f := 12) (F := fun x9 => [.ref (b + 112), .ref (b + 113), .ref (b + 114), .ref (b + 115), .ref (b + 116), .ref (b + 117), .ref (b + 118), .ref (b + 119), .ref (b + 120), .ref (b + 121), .ref (b + 122), .ref (b + 123), .int (x9 12), .int (x9 13), .int (x9 14), .int (x9 15), .int (x9 16), .int (x9 17), .int (x9 18), .int (x9 19), .int (x9 20), .int (x9 21), .int (x9 22), .int (x9 23), .int (x9 24), .long (w 111)]) B zid (by decide) rfl (fun x => z111 x _ _) cl7 inX7 tyX7 tyX7_ok nmX7 (by decide) wf_X7_47 rfl rfl rfl rfl (Nat.le_of_ble_eq_true rfl) (fun _ _ => rfl) dX7_connect_81 ?_
    refine zv_aload_n (pc := 84) B 0 rfl dX7_connect_84 ?_
    refine zv_get (pc := 85) (v := .int ((zup c 111 12 1) 111 12)) B (zat (by decide) (z111 _ _ _)) cl7 inX7 12 (by decide) wf_X7_47 rfl dX7_connect_85 ?_
    refine zv_topi (y := 1) (by rw [zup_s]) ?_
    refine zv_if_le (pc := 88) (tgt := 93) B dX7_connect_88 rfl (fun h9 => absurd h9 (by decide)) (fun _ => ?_)
    refine zv_iconst (pc := 91) (v := 0) B rfl dX7_connect_91 ?_
    have hE3 : (0, zup c 111 12 1) = m_X7_connect c x y z := (by unfold m_X7_connect; rw [if_pos h1])
    exact zv_iret (pc := 92) B (0) hr (fun H hP => ⟨(), ⟨(by rw [(zp2 hE3).1]), (by rw [(zp2 hE3).2]; exact (zfr.up zfr.refl (by omega))), (by rw [(zp2 hE3).2]; exact (zG.up hg (show zn _ ≤ zT9 from zn_T _)))⟩, (by rw [(zp2 hE3).2]; exact hP)⟩) (Nat.le_of_ble_eq_true rfl) (Nat.le_of_ble_eq_true rfl) dX7_connect_92
  · refine zv_aload_n (pc := 9) B 0 rfl dX7_connect_9 ?_
    refine zv_iload_n (pc := 10) B 2 rfl dX7_connect_10 ?_
    refine zv_callV (pc := 11) (As := [.int y]) (rest := [.ref (b + 111)]) B (k_X7_isNode l E b _ _ _ _  y) (zcwV 1 1 B wm_X7_110 wi_X7_isNode wv_X7_isNode wn_X7 wcode_X7_isNode rfl (by decide +kernel) ⟨(Nat.le_of_ble_eq_true rfl), (Nat.le_of_ble_eq_true rfl)⟩) rfl (zrecv B (zat (by decide) (z111 _ _ _)) cl7) zid rfl (Nat.le_of_ble_eq_true rfl) dX7_connect_11 ⟨(Nat.le_of_ble_eq_true rfl), (Nat.le_of_ble_eq_true rfl)⟩ (fun v9 u9 hv9 => ?_)
    subst hv9
    refine zv_st (st' := [.int (m_X7_isNode c y), .ref (b + 111)]) rfl ?_
    refine zv_if_ne (pc := 14) (tgt := 21) B dX7_connect_14 rfl (fun h4 => ?_) (fun h4 => ?_)
    · refine zv_iload_n (pc := 21) B 3 rfl dX7_connect_21 ?_
      refine zv_if_eq (pc := 22) (tgt := 36) B dX7_connect_22 rfl (fun h5 => ?_) (fun h5 => ?_)
      · refine zv_iconst (pc := 36) (v := 2) B rfl dX7_connect_36 ?_
        refine zv_goto (pc := 37) (tgt := 81) B rfl dX7_connect_37 ?_
        refine zs_put9 (pc := 81) (f := 12) (F := fun x9 => [.ref (b + 112), .ref (b + 113), .ref (b + 114), .ref (b + 115), .ref (b + 116), .ref (b + 117), .ref (b + 118), .ref (b + 119), .ref (b + 120), .ref (b + 121), .ref (b + 122), .ref (b + 123), .int (x9 12), .int (x9 13), .int (x9 14), .int (x9 15), .int (x9 16), .int (x9 17), .int (x9 18), .int (x9 19), .int (x9 20), .int (x9 21), .int (x9 22), .int (x9 23), .int (x9 24), .long (w 111)]) B zid (by decide) rfl (fun x => z111 x _ _) cl7 inX7 tyX7 tyX7_ok nmX7 (by decide) wf_X7_47 rfl rfl rfl rfl (Nat.le_of_ble_eq_true rfl) (fun _ _ => rfl) dX7_connect_81 ?_
        refine zv_aload_n (pc := 84) B 0 rfl dX7_connect_84 ?_
        refine zv_get (pc := 85) (v := .int ((zup c 111 12 2) 111 12)) B (zat (by decide) (z111 _ _ _)) cl7 inX7 12 (by decide) wf_X7_47 rfl dX7_connect_85 ?_
        refine zv_topi (y := 2) (by rw [zup_s]) ?_
        refine zv_if_le (pc := 88) (tgt := 93) B dX7_connect_88 rfl (fun h9 => absurd h9 (by decide)) (fun _ => ?_)
        refine zv_iconst (pc := 91) (v := 0) B rfl dX7_connect_91 ?_
        have hE7 : (0, zup c 111 12 2) = m_X7_connect c x y z := (by unfold m_X7_connect; rw [if_neg h1, if_neg h4, if_pos h5])
        exact zv_iret (pc := 92) B (0) hr (fun H hP => ⟨(), ⟨(by rw [(zp2 hE7).1]), (by rw [(zp2 hE7).2]; exact (zfr.up zfr.refl (by omega))), (by rw [(zp2 hE7).2]; exact (zG.up hg (show zn _ ≤ zT9 from zn_T _)))⟩, (by rw [(zp2 hE7).2]; exact hP)⟩) (Nat.le_of_ble_eq_true rfl) (Nat.le_of_ble_eq_true rfl) dX7_connect_92
      · refine zv_iload_n (pc := 25) B 3 rfl dX7_connect_25 ?_
        refine zv_bipush (pc := 26) (v := (-100)) B rfl dX7_connect_26 ?_
        refine zv_bipush (pc := 28) (v := 100) B rfl dX7_connect_28 ?_
        refine zv_callS (pc := 30) (As := [.int z, .int (-100), .int 100]) (rest := [.ref (b + 111)]) B (k_X7_in l E b z (-100) 100) (zcwS 3 0 B wm_X7_94 ws_X7_in wn_X7 wcode_X7_in (by decide +kernel) ⟨(Nat.le_of_ble_eq_true rfl), (Nat.le_of_ble_eq_true rfl)⟩) rfl zid rfl (Nat.le_of_ble_eq_true rfl) dX7_connect_30 ⟨(Nat.le_of_ble_eq_true rfl), (Nat.le_of_ble_eq_true rfl)⟩ (fun v9 u9 hv9 => ?_)
        subst hv9
        refine zv_st (st' := [.int (r_X7_in z (-100) 100), .ref (b + 111)]) rfl ?_
        refine zv_if_ne (pc := 33) (tgt := 40) B dX7_connect_33 rfl (fun h8 => ?_) (fun h8 => ?_)
        · have hnx := nd_lt hg h1
          have hny := nd_lt hg h4
          have hbx := nd_ok hg h1
          have hby := nd_ok hg h4
          have hc4 : zn (c 120 (zn y)) ≤ 4 := hg 120 _
          refine zv_aload_n (pc := 40) B 0 rfl dX7_connect_40 ?_
          refine zv_iload_n (pc := 41) B 1 rfl dX7_connect_41 ?_
          refine zv_iload_n (pc := 42) B 2 rfl dX7_connect_42 ?_
          refine zv_st (st' := [.int (nI (zn y)), .int x, .ref (b + 111), .ref (b + 111)]) (by rw [← zn_eq y]) ?_
          refine zv_callV (pc := 43) (As := [.int x, .int (nI (zn y))]) (rest := [.ref (b + 111)]) B (k_X7_wire l E b _ _ _ _  x hby hg) (zcwV 2 0 B wm_X7_106 wi_X7_wire wv_X7_wire wn_X7 wcode_X7_wire rfl (by decide +kernel) ⟨(Nat.le_of_ble_eq_true rfl), (Nat.le_of_ble_eq_true rfl)⟩) rfl (zrecv B (zat (by decide) (z111 _ _ _)) cl7) zid rfl (Nat.le_of_ble_eq_true rfl) dX7_connect_43 ⟨(Nat.le_of_ble_eq_true rfl), (Nat.le_of_ble_eq_true rfl)⟩ (fun v9 u9 hv9 => ?_)
          subst hv9
          refine zv_st (st' := [.int (m_X7_wire c x (zn y)), .ref (b + 111)]) rfl ?_
          refine zv_if_ge (pc := 46) (tgt := 59) B dX7_connect_46 rfl (fun h9 => ?_) (fun h9 => ?_)
          · refine zv_iconst (pc := 59) (v := 3) B rfl dX7_connect_59 ?_
            refine zv_goto (pc := 60) (tgt := 81) B rfl dX7_connect_60 ?_
            refine zs_put9 (pc := 81) (f := 12) (F := fun x9 => [.ref (b + 112), .ref (b + 113), .ref (b + 114), .ref (b + 115), .ref (b + 116), .ref (b + 117), .ref (b + 118), .ref (b + 119), .ref (b + 120), .ref (b + 121), .ref (b + 122), .ref (b + 123), .int (x9 12), .int (x9 13), .int (x9 14), .int (x9 15), .int (x9 16), .int (x9 17), .int (x9 18), .int (x9 19), .int (x9 20), .int (x9 21), .int (x9 22), .int (x9 23), .int (x9 24), .long (w 111)]) B zid (by decide) rfl (fun x => z111 x _ _) cl7 inX7 tyX7 tyX7_ok nmX7 (by decide) wf_X7_47 rfl rfl rfl rfl (Nat.le_of_ble_eq_true rfl) (fun _ _ => rfl) dX7_connect_81 ?_
            refine zv_aload_n (pc := 84) B 0 rfl dX7_connect_84 ?_
            refine zv_get (pc := 85) (v := .int ((zup c 111 12 3) 111 12)) B (zat (by decide) (z111 _ _ _)) cl7 inX7 12 (by decide) wf_X7_47 rfl dX7_connect_85 ?_
            refine zv_topi (y := 3) (by rw [zup_s]) ?_
            refine zv_if_le (pc := 88) (tgt := 93) B dX7_connect_88 rfl (fun h9 => absurd h9 (by decide)) (fun _ => ?_)
            refine zv_iconst (pc := 91) (v := 0) B rfl dX7_connect_91 ?_
            have hE11 : (0, zup c 111 12 3) = m_X7_connect c x y z := (by unfold m_X7_connect; rw [if_neg h1, if_neg h4, if_neg h5, if_neg h8, if_pos h9])
            exact zv_iret (pc := 92) B (0) hr (fun H hP => ⟨(), ⟨(by rw [(zp2 hE11).1]), (by rw [(zp2 hE11).2]; exact (zfr.up zfr.refl (by omega))), (by rw [(zp2 hE11).2]; exact (zG.up hg (show zn _ ≤ zT9 from zn_T _)))⟩, (by rw [(zp2 hE11).2]; exact hP)⟩) (Nat.le_of_ble_eq_true rfl) (Nat.le_of_ble_eq_true rfl) dX7_connect_92
          · refine zv_aload_n (pc := 49) B 0 rfl dX7_connect_49 ?_
            refine zv_get (pc := 50) (v := .ref (b + 120)) B (zat (by decide) (z111 _ _ _)) cl7 inX7 8 (by decide) wf_X7_34 rfl dX7_connect_50 ?_
            refine zv_iload_n (pc := 53) B 2 rfl dX7_connect_53 ?_
            refine zv_iald (pc := 54) (jj := (zn y)) B (zat (by decide) (z120 _ _ _)) (zn_eq y) hby (by decide) dX7_connect_54 ?_
            refine zv_iconst (pc := 55) (v := 4) B rfl dX7_connect_55 ?_
            refine zv_icmp_ne (pc := 56) (tgt := 63) B dX7_connect_56 rfl (fun h12 => ?_) (fun h12 => ?_)
            · refine zv_iload_n (pc := 63) B 2 rfl dX7_connect_63 ?_
              refine zv_if_eq (pc := 64) (tgt := 76) B dX7_connect_64 rfl (fun h13 => ?_) (fun h13 => ?_)
              · refine zv_iconst (pc := 76) (v := 4) B rfl dX7_connect_76 ?_
                refine zv_goto (pc := 77) (tgt := 81) B rfl dX7_connect_77 ?_
                refine zs_put9 (pc := 81) (f := 12) (F := fun x9 => [.ref (b + 112), .ref (b + 113), .ref (b + 114), .ref (b + 115), .ref (b + 116), .ref (b + 117), .ref (b + 118), .ref (b + 119), .ref (b + 120), .ref (b + 121), .ref (b + 122), .ref (b + 123), .int (x9 12), .int (x9 13), .int (x9 14), .int (x9 15), .int (x9 16), .int (x9 17), .int (x9 18), .int (x9 19), .int (x9 20), .int (x9 21), .int (x9 22), .int (x9 23), .int (x9 24), .long (w 111)]) B zid (by decide) rfl (fun x => z111 x _ _) cl7 inX7 tyX7 tyX7_ok nmX7 (by decide) wf_X7_47 rfl rfl rfl rfl (Nat.le_of_ble_eq_true rfl) (fun _ _ => rfl) dX7_connect_81 ?_
                refine zv_aload_n (pc := 84) B 0 rfl dX7_connect_84 ?_
                refine zv_get (pc := 85) (v := .int ((zup c 111 12 4) 111 12)) B (zat (by decide) (z111 _ _ _)) cl7 inX7 12 (by decide) wf_X7_47 rfl dX7_connect_85 ?_
                refine zv_topi (y := 4) (by rw [zup_s]) ?_
                refine zv_if_le (pc := 88) (tgt := 93) B dX7_connect_88 rfl (fun h9 => absurd h9 (by decide)) (fun _ => ?_)
                refine zv_iconst (pc := 91) (v := 0) B rfl dX7_connect_91 ?_
                have hE15 : (0, zup c 111 12 4) = m_X7_connect c x y z := (by unfold m_X7_connect; rw [if_neg h1, if_neg h4, if_neg h5, if_neg h8, if_neg h9, if_neg h12, if_pos h13])
                exact zv_iret (pc := 92) B (0) hr (fun H hP => ⟨(), ⟨(by rw [(zp2 hE15).1]), (by rw [(zp2 hE15).2]; exact (zfr.up zfr.refl (by omega))), (by rw [(zp2 hE15).2]; exact (zG.up hg (show zn _ ≤ zT9 from zn_T _)))⟩, (by rw [(zp2 hE15).2]; exact hP)⟩) (Nat.le_of_ble_eq_true rfl) (Nat.le_of_ble_eq_true rfl) dX7_connect_92
              · refine zv_aload_n (pc := 67) B 0 rfl dX7_connect_67 ?_
                refine zv_iload_n (pc := 68) B 2 rfl dX7_connect_68 ?_
                refine zv_iload_n (pc := 69) B 1 rfl dX7_connect_69 ?_
                refine zv_st (st' := [.int (nI (zn x)), .int (nI (zn y)), .ref (b + 111), .ref (b + 111)]) (by rw [← zn_eq y, ← zn_eq x]) ?_
                refine zv_callV (pc := 70) (As := [.int (nI (zn y)), .int (nI (zn x))]) (rest := [.ref (b + 111)]) B (k_X7_leads l E b _ _ _ _  hby hbx hg) (zcwV 2 1 B wm_X7_114 wi_X7_leads wv_X7_leads wn_X7 wcode_X7_leads rfl (by decide +kernel) ⟨(Nat.le_of_ble_eq_true rfl), (Nat.le_of_ble_eq_true rfl)⟩) rfl (zrecv B (zat (by decide) (z111 _ _ _)) cl7) zid rfl (Nat.le_of_ble_eq_true rfl) dX7_connect_70 ⟨(Nat.le_of_ble_eq_true rfl), (Nat.le_of_ble_eq_true rfl)⟩ (fun v9 u9 hv9 => ?_)
                obtain ⟨rfl, hF2016, hg2016⟩ := hv9
                refine zv_st (st' := [.int ((m_X7_leads c (zn y) (zn x)).1), .ref (b + 111)]) rfl ?_
                refine zv_if_eq (pc := 73) (tgt := 80) B dX7_connect_73 rfl (fun h17 => ?_) (fun h17 => ?_)
                · refine zv_iconst (pc := 80) (v := 0) B rfl dX7_connect_80 ?_
                  refine zs_put9 (pc := 81) (f := 12) (F := fun x9 => [.ref (b + 112), .ref (b + 113), .ref (b + 114), .ref (b + 115), .ref (b + 116), .ref (b + 117), .ref (b + 118), .ref (b + 119), .ref (b + 120), .ref (b + 121), .ref (b + 122), .ref (b + 123), .int (x9 12), .int (x9 13), .int (x9 14), .int (x9 15), .int (x9 16), .int (x9 17), .int (x9 18), .int (x9 19), .int (x9 20), .int (x9 21), .int (x9 22), .int (x9 23), .int (x9 24), .long (w 111)]) B zid (by decide) rfl (fun x => z111 x _ _) cl7 inX7 tyX7 tyX7_ok nmX7 (by decide) wf_X7_47 rfl rfl rfl rfl (Nat.le_of_ble_eq_true rfl) (fun _ _ => rfl) dX7_connect_81 ?_
                  refine zv_aload_n (pc := 84) B 0 rfl dX7_connect_84 ?_
                  refine zv_get (pc := 85) (v := .int ((zup ((m_X7_leads c (zn y) (zn x)).2) 111 12 0) 111 12)) B (zat (by decide) (z111 _ _ _)) cl7 inX7 12 (by decide) wf_X7_47 rfl dX7_connect_85 ?_
                  refine zv_topi (y := 0) (by rw [zup_s]) ?_
                  refine zv_if_le (pc := 88) (tgt := 93) B dX7_connect_88 rfl (fun _ => ?_) (fun h9 => absurd (by decide) h9)
                  have hne4 : ¬ zn (c 120 (zn y)) = 4 := fun q => h12 (zn_inj q)
                  have hcnt : zn (c 120 (zn y)) < 4 := by omega
                  refine zv_aload_n (pc := 93) B 0 rfl dX7_connect_93 ?_
                  refine zv_get (pc := 94) (v := .ref (b + 118)) B (zat (by decide) (z111 _ _ _)) cl7 inX7 6 (by decide) wf_X7_28 rfl dX7_connect_94 ?_
                  refine zv_iconst (pc := 97) (v := 4) B rfl dX7_connect_97 ?_
                  refine zv_iload_n (pc := 98) B 2 rfl dX7_connect_98 ?_
                  refine zv_imul (pc := 99) B dX7_connect_99 ?_
                  refine zv_topi (y := nI (4 * zn y)) (zmll rfl) ?_
                  refine zv_aload_n (pc := 100) B 0 rfl dX7_connect_100 ?_
                  refine zv_get (pc := 101) (v := .ref (b + 120)) B (zat (by decide) (z111 _ _ _)) cl7 inX7 8 (by decide) wf_X7_34 rfl dX7_connect_101 ?_
                  refine zv_iload_n (pc := 104) B 2 rfl dX7_connect_104 ?_
                  refine zv_iald (pc := 105) (jj := (zn y)) B (zat (by decide) (z120 _ _ _)) (zn_eq y) hby (by decide) dX7_connect_105 ?_
                  refine zv_topi (y := c 120 (zn y)) (by rw [zup_i (i := 111) (i' := 120) _ _ _ (by decide), hF2016 120 (by omega)]) ?_
                  refine zv_iadd (pc := 106) B dX7_connect_106 ?_
                  refine zv_topi (y := nI (4 * zn y + zn (c 120 (zn y)))) ((by rw [← nI_add, ← zn_eq])) ?_
                  refine zv_iload_n (pc := 107) B 1 rfl dX7_connect_107 ?_
                  refine zs_iast (pc := 108) (jj := (4 * zn y + zn (c 120 (zn y)))) B zid (by decide) rfl (fun x w e => z118 x w e) rfl (by omega) (by decide) dX7_connect_108 ?_
                  refine zv_aload_n (pc := 109) B 0 rfl dX7_connect_109 ?_
                  refine zv_get (pc := 110) (v := .ref (b + 119)) B (zat (by decide) (z111 _ _ _)) cl7 inX7 7 (by decide) wf_X7_31 rfl dX7_connect_110 ?_
                  refine zv_iconst (pc := 113) (v := 4) B rfl dX7_connect_113 ?_
                  refine zv_iload_n (pc := 114) B 2 rfl dX7_connect_114 ?_
                  refine zv_imul (pc := 115) B dX7_connect_115 ?_
                  refine zv_topi (y := nI (4 * zn y)) (zmll rfl) ?_
                  refine zv_aload_n (pc := 116) B 0 rfl dX7_connect_116 ?_
                  refine zv_get (pc := 117) (v := .ref (b + 120)) B (zat (by decide) (z111 _ _ _)) cl7 inX7 8 (by decide) wf_X7_34 rfl dX7_connect_117 ?_
                  refine zv_iload_n (pc := 120) B 2 rfl dX7_connect_120 ?_
                  refine zv_iald (pc := 121) (jj := (zn y)) B (zat (by decide) (z120 _ _ _)) (zn_eq y) hby (by decide) dX7_connect_121 ?_
                  refine zv_topi (y := c 120 (zn y)) (by rw [zup_i (i := 118) (i' := 120) _ _ _ (by decide), zup_i (i := 111) (i' := 120) _ _ _ (by decide), hF2016 120 (by omega)]) ?_
                  refine zv_iadd (pc := 122) B dX7_connect_122 ?_
                  refine zv_topi (y := nI (4 * zn y + zn (c 120 (zn y)))) ((by rw [← nI_add, ← zn_eq])) ?_
                  refine zv_iload_n (pc := 123) B 3 rfl dX7_connect_123 ?_
                  refine zs_iast (pc := 124) (jj := (4 * zn y + zn (c 120 (zn y)))) B zid (by decide) rfl (fun x w e => z119 x w e) rfl (by omega) (by decide) dX7_connect_124 ?_
                  refine zv_aload_n (pc := 125) B 0 rfl dX7_connect_125 ?_
                  refine zv_get (pc := 126) (v := .ref (b + 120)) B (zat (by decide) (z111 _ _ _)) cl7 inX7 8 (by decide) wf_X7_34 rfl dX7_connect_126 ?_
                  refine zv_iload_n (pc := 129) B 2 rfl dX7_connect_129 ?_
                  refine zv_dup2 (pc := 130) B rfl rfl dX7_connect_130 ?_
                  refine zv_iald (pc := 131) (jj := (zn y)) B (zat (by decide) (z120 _ _ _)) (zn_eq y) hby (by decide) dX7_connect_131 ?_
                  refine zv_topi (y := c 120 (zn y)) (by rw [zup_i (i := 119) (i' := 120) _ _ _ (by decide), zup_i (i := 118) (i' := 120) _ _ _ (by decide), zup_i (i := 111) (i' := 120) _ _ _ (by decide), hF2016 120 (by omega)]) ?_
                  refine zv_iconst (pc := 132) (v := 1) B rfl dX7_connect_132 ?_
                  refine zv_iadd (pc := 133) B dX7_connect_133 ?_
                  refine zv_topi (y := nI (zn (c 120 (zn y)) + 1)) ((by rw [← nI_1, ← zn_eq])) ?_
                  refine zs_iast (pc := 134) (jj := (zn y)) B zid (by decide) rfl (fun x w e => z120 x w e) (zn_eq y) hby (by decide) dX7_connect_134 ?_
                  refine zv_aload_n (pc := 135) B 0 rfl dX7_connect_135 ?_
                  refine zv_callV (pc := 136) (As := []) (rest := []) B (k_X7_lays l E b _ _ _ _  (by rw [zup_i (i := 120) (i' := 111) _ _ _ (by decide), zup_i (i := 119) (i' := 111) _ _ _ (by decide), zup_i (i := 118) (i' := 111) _ _ _ (by decide), zup_k (k := 12) (k' := 13) _ _ (by decide), hF2016 111 (by omega)]; exact con_ok (x := zn x) (y := zn y) hg rfl hA hnx hny hcnt (by rw [zup_i _ _ _ (by decide), zup_i _ _ _ (by decide), zup_i _ _ _ (by decide), zup_i _ _ _ (by decide), hF2016 114 (by omega)]) (fun q hq => by rw [zup_i _ _ _ (by decide), zup_i _ _ _ (by decide), zup_k _ _ hq, zup_i _ _ _ (by decide), hF2016 118 (by omega)]) (by rw [zup_i _ _ _ (by decide), zup_i _ _ _ (by decide), zup_s]) (fun q hq => by rw [zup_k _ _ hq, zup_i _ _ _ (by decide), zup_i _ _ _ (by decide), zup_i _ _ _ (by decide), hF2016 120 (by omega)]) (by rw [zup_s, zn_nI (by omega)]) h17) (zG.up (zG.free (zG.up (zG.up hg2016 (show zn _ ≤ zT9 from zn_T _)) (show zn _ ≤ 9 from (by have h8 := hbx; omega))) (by unfold zfree; omega)) (show zn _ ≤ 4 from (show zn _ ≤ 4 by rw [zn_nI (by omega)]; omega)))) (zcwV 0 1 B wm_X7_91 wi_X7_lays wv_X7_lays wn_X7 wcode_X7_lays rfl (by decide +kernel) ⟨(Nat.le_of_ble_eq_true rfl), (Nat.le_of_ble_eq_true rfl)⟩) rfl (zrecv B (zat (by decide) (z111 _ _ _)) cl7) zid rfl (Nat.le_of_ble_eq_true rfl) dX7_connect_136 ⟨(Nat.le_of_ble_eq_true rfl), (Nat.le_of_ble_eq_true rfl)⟩ (fun v9 u9 hv9 => ?_)
                  obtain ⟨rfl, hF2019, hg2019⟩ := hv9
                  refine zv_st (st' := []) rfl ?_
                  refine zv_aload_n (pc := 139) B 0 rfl dX7_connect_139 ?_
                  refine zv_get (pc := 140) (v := .ref (b + 120)) B (zat (by decide) (z111 _ _ _)) cl7 inX7 8 (by decide) wf_X7_34 rfl dX7_connect_140 ?_
                  refine zv_iload_n (pc := 143) B 2 rfl dX7_connect_143 ?_
                  refine zv_iald (pc := 144) (jj := (zn y)) B (zat (by decide) (z120 _ _ _)) (zn_eq y) hby (by decide) dX7_connect_144 ?_
                  refine zv_topi (y := nI (zn (c 120 (zn y)) + 1)) (by rw [hF2019 120 (by omega), zup_s]) ?_
                  have hE20 : (nI (zn (c 120 (zn y)) + 1), (m_X7_lays (zup (zup (zup (zup ((m_X7_leads c (zn y) (zn x)).2) 111 12 0) 118 (4 * zn y + zn (c 120 (zn y))) x) 119 (4 * zn y + zn (c 120 (zn y))) z) 120 (zn y) (nI (zn (c 120 (zn y)) + 1))))) = m_X7_connect c x y z := (by unfold m_X7_connect; rw [if_neg h1, if_neg h4, if_neg h5, if_neg h8, if_neg h9, if_neg h12, if_neg h13, if_pos h17])
                  exact zv_iret (pc := 145) B (nI (zn (c 120 (zn y)) + 1)) hr (fun H hP => ⟨(), ⟨(by rw [(zp2 hE20).1]), (by rw [(zp2 hE20).2]; exact (zfr.call2 (zfr.up (zfr.up (zfr.up (zfr.up (zfr.call2 zfr.refl hF2016 (by omega)) (by omega)) (by omega)) (by omega)) (by omega)) hF2019 (by omega))), (by rw [(zp2 hE20).2]; exact hg2019)⟩, (by rw [(zp2 hE20).2]; exact hP)⟩) (Nat.le_of_ble_eq_true rfl) (Nat.le_of_ble_eq_true rfl) dX7_connect_145
                · refine zv_iconst (pc := 76) (v := 4) B rfl dX7_connect_76 ?_
                  refine zv_goto (pc := 77) (tgt := 81) B rfl dX7_connect_77 ?_
                  refine zs_put9 (pc := 81) (f := 12) (F := fun x9 => [.ref (b + 112), .ref (b + 113), .ref (b + 114), .ref (b + 115), .ref (b + 116), .ref (b + 117), .ref (b + 118), .ref (b + 119), .ref (b + 120), .ref (b + 121), .ref (b + 122), .ref (b + 123), .int (x9 12), .int (x9 13), .int (x9 14), .int (x9 15), .int (x9 16), .int (x9 17), .int (x9 18), .int (x9 19), .int (x9 20), .int (x9 21), .int (x9 22), .int (x9 23), .int (x9 24), .long (w 111)]) B zid (by decide) rfl (fun x => z111 x _ _) cl7 inX7 tyX7 tyX7_ok nmX7 (by decide) wf_X7_47 rfl rfl rfl rfl (Nat.le_of_ble_eq_true rfl) (fun _ _ => rfl) dX7_connect_81 ?_
                  refine zv_aload_n (pc := 84) B 0 rfl dX7_connect_84 ?_
                  refine zv_get (pc := 85) (v := .int ((zup ((m_X7_leads c (zn y) (zn x)).2) 111 12 4) 111 12)) B (zat (by decide) (z111 _ _ _)) cl7 inX7 12 (by decide) wf_X7_47 rfl dX7_connect_85 ?_
                  refine zv_topi (y := 4) (by rw [zup_s]) ?_
                  refine zv_if_le (pc := 88) (tgt := 93) B dX7_connect_88 rfl (fun h9 => absurd h9 (by decide)) (fun _ => ?_)
                  refine zv_iconst (pc := 91) (v := 0) B rfl dX7_connect_91 ?_
                  have hE22 : (0, zup ((m_X7_leads c (zn y) (zn x)).2) 111 12 4) = m_X7_connect c x y z := (by unfold m_X7_connect; rw [if_neg h1, if_neg h4, if_neg h5, if_neg h8, if_neg h9, if_neg h12, if_neg h13, if_neg h17])
                  exact zv_iret (pc := 92) B (0) hr (fun H hP => ⟨(), ⟨(by rw [(zp2 hE22).1]), (by rw [(zp2 hE22).2]; exact (zfr.up (zfr.call2 zfr.refl hF2016 (by omega)) (by omega))), (by rw [(zp2 hE22).2]; exact (zG.up hg2016 (show zn _ ≤ zT9 from zn_T _)))⟩, (by rw [(zp2 hE22).2]; exact hP)⟩) (Nat.le_of_ble_eq_true rfl) (Nat.le_of_ble_eq_true rfl) dX7_connect_92
            · refine zv_iconst (pc := 59) (v := 3) B rfl dX7_connect_59 ?_
              refine zv_goto (pc := 60) (tgt := 81) B rfl dX7_connect_60 ?_
              refine zs_put9 (pc := 81) (f := 12) (F := fun x9 => [.ref (b + 112), .ref (b + 113), .ref (b + 114), .ref (b + 115), .ref (b + 116), .ref (b + 117), .ref (b + 118), .ref (b + 119), .ref (b + 120), .ref (b + 121), .ref (b + 122), .ref (b + 123), .int (x9 12), .int (x9 13), .int (x9 14), .int (x9 15), .int (x9 16), .int (x9 17), .int (x9 18), .int (x9 19), .int (x9 20), .int (x9 21), .int (x9 22), .int (x9 23), .int (x9 24), .long (w 111)]) B zid (by decide) rfl (fun x => z111 x _ _) cl7 inX7 tyX7 tyX7_ok nmX7 (by decide) wf_X7_47 rfl rfl rfl rfl (Nat.le_of_ble_eq_true rfl) (fun _ _ => rfl) dX7_connect_81 ?_
              refine zv_aload_n (pc := 84) B 0 rfl dX7_connect_84 ?_
              refine zv_get (pc := 85) (v := .int ((zup c 111 12 3) 111 12)) B (zat (by decide) (z111 _ _ _)) cl7 inX7 12 (by decide) wf_X7_47 rfl dX7_connect_85 ?_
              refine zv_topi (y := 3) (by rw [zup_s]) ?_
              refine zv_if_le (pc := 88) (tgt := 93) B dX7_connect_88 rfl (fun h9 => absurd h9 (by decide)) (fun _ => ?_)
              refine zv_iconst (pc := 91) (v := 0) B rfl dX7_connect_91 ?_
              have hE24 : (0, zup c 111 12 3) = m_X7_connect c x y z := (by unfold m_X7_connect; rw [if_neg h1, if_neg h4, if_neg h5, if_neg h8, if_neg h9, if_pos h12])
              exact zv_iret (pc := 92) B (0) hr (fun H hP => ⟨(), ⟨(by rw [(zp2 hE24).1]), (by rw [(zp2 hE24).2]; exact (zfr.up zfr.refl (by omega))), (by rw [(zp2 hE24).2]; exact (zG.up hg (show zn _ ≤ zT9 from zn_T _)))⟩, (by rw [(zp2 hE24).2]; exact hP)⟩) (Nat.le_of_ble_eq_true rfl) (Nat.le_of_ble_eq_true rfl) dX7_connect_92
        · refine zv_iconst (pc := 36) (v := 2) B rfl dX7_connect_36 ?_
          refine zv_goto (pc := 37) (tgt := 81) B rfl dX7_connect_37 ?_
          refine zs_put9 (pc := 81) (f := 12) (F := fun x9 => [.ref (b + 112), .ref (b + 113), .ref (b + 114), .ref (b + 115), .ref (b + 116), .ref (b + 117), .ref (b + 118), .ref (b + 119), .ref (b + 120), .ref (b + 121), .ref (b + 122), .ref (b + 123), .int (x9 12), .int (x9 13), .int (x9 14), .int (x9 15), .int (x9 16), .int (x9 17), .int (x9 18), .int (x9 19), .int (x9 20), .int (x9 21), .int (x9 22), .int (x9 23), .int (x9 24), .long (w 111)]) B zid (by decide) rfl (fun x => z111 x _ _) cl7 inX7 tyX7 tyX7_ok nmX7 (by decide) wf_X7_47 rfl rfl rfl rfl (Nat.le_of_ble_eq_true rfl) (fun _ _ => rfl) dX7_connect_81 ?_
          refine zv_aload_n (pc := 84) B 0 rfl dX7_connect_84 ?_
          refine zv_get (pc := 85) (v := .int ((zup c 111 12 2) 111 12)) B (zat (by decide) (z111 _ _ _)) cl7 inX7 12 (by decide) wf_X7_47 rfl dX7_connect_85 ?_
          refine zv_topi (y := 2) (by rw [zup_s]) ?_
          refine zv_if_le (pc := 88) (tgt := 93) B dX7_connect_88 rfl (fun h9 => absurd h9 (by decide)) (fun _ => ?_)
          refine zv_iconst (pc := 91) (v := 0) B rfl dX7_connect_91 ?_
          have hE26 : (0, zup c 111 12 2) = m_X7_connect c x y z := (by unfold m_X7_connect; rw [if_neg h1, if_neg h4, if_neg h5, if_pos h8])
          exact zv_iret (pc := 92) B (0) hr (fun H hP => ⟨(), ⟨(by rw [(zp2 hE26).1]), (by rw [(zp2 hE26).2]; exact (zfr.up zfr.refl (by omega))), (by rw [(zp2 hE26).2]; exact (zG.up hg (show zn _ ≤ zT9 from zn_T _)))⟩, (by rw [(zp2 hE26).2]; exact hP)⟩) (Nat.le_of_ble_eq_true rfl) (Nat.le_of_ble_eq_true rfl) dX7_connect_92
    · refine zv_iconst (pc := 17) (v := 1) B rfl dX7_connect_17 ?_
      refine zv_goto (pc := 18) (tgt := 81) B rfl dX7_connect_18 ?_
      refine zs_put9 (pc := 81) (f := 12) (F := fun x9 => [.ref (b + 112), .ref (b + 113), .ref (b + 114), .ref (b + 115), .ref (b + 116), .ref (b + 117), .ref (b + 118), .ref (b + 119), .ref (b + 120), .ref (b + 121), .ref (b + 122), .ref (b + 123), .int (x9 12), .int (x9 13), .int (x9 14), .int (x9 15), .int (x9 16), .int (x9 17), .int (x9 18), .int (x9 19), .int (x9 20), .int (x9 21), .int (x9 22), .int (x9 23), .int (x9 24), .long (w 111)]) B zid (by decide) rfl (fun x => z111 x _ _) cl7 inX7 tyX7 tyX7_ok nmX7 (by decide) wf_X7_47 rfl rfl rfl rfl (Nat.le_of_ble_eq_true rfl) (fun _ _ => rfl) dX7_connect_81 ?_
      refine zv_aload_n (pc := 84) B 0 rfl dX7_connect_84 ?_
      refine zv_get (pc := 85) (v := .int ((zup c 111 12 1) 111 12)) B (zat (by decide) (z111 _ _ _)) cl7 inX7 12 (by decide) wf_X7_47 rfl dX7_connect_85 ?_
      refine zv_topi (y := 1) (by rw [zup_s]) ?_
      refine zv_if_le (pc := 88) (tgt := 93) B dX7_connect_88 rfl (fun h9 => absurd h9 (by decide)) (fun _ => ?_)
      refine zv_iconst (pc := 91) (v := 0) B rfl dX7_connect_91 ?_
      have hE28 : (0, zup c 111 12 1) = m_X7_connect c x y z := (by unfold m_X7_connect; rw [if_neg h1, if_pos h4])
      exact zv_iret (pc := 92) B (0) hr (fun H hP => ⟨(), ⟨(by rw [(zp2 hE28).1]), (by rw [(zp2 hE28).2]; exact (zfr.up zfr.refl (by omega))), (by rw [(zp2 hE28).2]; exact (zG.up hg (show zn _ ≤ zT9 from zn_T _)))⟩, (by rw [(zp2 hE28).2]; exact hP)⟩) (Nat.le_of_ble_eq_true rfl) (Nat.le_of_ble_eq_true rfl) dX7_connect_92

theorem z_nlt {x : Int32} (h : 0 ≤ x) : ¬ x < 0 := fun q => absurd (Int32.lt_of_lt_of_le q h) Int32.lt_irrefl
theorem dis_shift {c C : Nat → Nat → Int32} {n y a : Nat} (hA : zAc c n) (hy : y < n) (h114 : C 114 = c 114) (ha : a < zn (c 120 y)) (hc1 : C 120 y = nI (zn (c 120 y) - 1)) (hc2 : ∀ q, q ≠ y → C 120 q = c 120 q) (hs1 : ∀ q, q < 4 * y + a ∨ 4 * y + (zn (c 120 y) - 1) ≤ q → C 118 q = c 118 q) (hs2 : ∀ q, 4 * y + a ≤ q → q < 4 * y + (zn (c 120 y) - 1) → C 118 q = c 118 (q + 1)) (h4 : ∀ k, zn (c 120 k) ≤ 4) : zAc C n := by
  refine dis_ok hA h114 (fun k hk i hi => ?_)
  by_cases e : k = y
  · subst e
    have hk4 := h4 k
    rw [hc1, zn_nI (by omega)] at hi
    by_cases e2 : i < a
    · exact ⟨i, by omega, hs1 _ (by omega)⟩
    · exact ⟨i + 1, by omega, hs2 _ (by omega) (by omega)⟩
  · rw [hc2 k e] at hi
    exact ⟨i, hi, hs1 _ (by have := h4 k; have := h4 y; omega)⟩
def g1_X7_disconnect (c : Nat → Nat → Int32) (x y : Int32)  : Nat → Nat → (Nat → Nat → Int32) → (Nat → (Nat → Nat → Int32) → Int32 × (Nat → Nat → Int32)) → Int32 × (Nat → Nat → Int32)
  | 0, k, c1, K => K k c1
  | n + 1, k, c1, K => g1_X7_disconnect c x y n (k + 1) (zup (zup c1 118 k (c1 118 (k + 1))) 119 k (c1 119 (k + 1))) K
def m_X7_disconnect (c : Nat → Nat → Int32) (x y : Int32) : Int32 × (Nat → Nat → Int32) := if (m_X7_isNode c x) = 0 then (0, zup c 111 12 1) else (if (m_X7_isNode c y) = 0 then (0, zup c 111 12 1) else (if 0 ≤ (m_X7_wire c x (zn y)) then (g1_X7_disconnect c x y (zn (c 120 (zn y)) - 1 - zn (m_X7_wire c x (zn y))) (4 * zn y + zn (m_X7_wire c x (zn y))) (zup (zup c 111 12 0) 120 (zn y) (nI (zn (c 120 (zn y)) - 1))) (fun k c1 => (c 119 (4 * zn y + zn (m_X7_wire c x (zn y))), (m_X7_lays c1)))) else (0, zup c 111 12 2)))
set_option maxRecDepth 100000 in
set_option maxHeartbeats 400000 in
theorem k_X7_disconnect (l : Launch) (E : zE) (b : Nat) (c : Nat → Nat → Int32) (w : Nat → Int64) (en : Nat → Nat) (ea : Nat → Nat → Int32) (x y : Int32) (hA : zAc c (zn (c 111 13))) (hg : zG c) : zM l yX7_disconnect (.code yX7_disconnect cX7_disconnect 6 (some .int) :: zAll) (zRm 2 0 0) E b [.ref (b + 111), .int x, .int y] (zH E b c w en ea) (fun v9 (_ : Unit) => v9 = some (.int (m_X7_disconnect c x y).1) ∧ zfr 118 124 111 112 c (m_X7_disconnect c x y).2 ∧ zG (m_X7_disconnect c x y).2) (fun _ => zH E b ((m_X7_disconnect c x y).2) w en ea) 0 0 := by
  refine zM_of "ToneGraphModel" (by decide) rfl rfl (Nat.le_of_ble_eq_true rfl) (L0 := [(0, .ref (b + 111)), (1, .int x), (2, .int y)]) rfl ?_
  intro p e s m args below meth c9 B hr hname
  refine zv_aload_n (pc := 0) B 0 rfl dX7_disconnect_0 ?_
  refine zv_aload_n (pc := 1) B 0 rfl dX7_disconnect_1 ?_
  refine zv_iload_n (pc := 2) B 1 rfl dX7_disconnect_2 ?_
  refine zv_callV (pc := 3) (As := [.int x]) (rest := [.ref (b + 111)]) B (k_X7_isNode l E b _ _ _ _  x) (zcwV 1 1 B wm_X7_110 wi_X7_isNode wv_X7_isNode wn_X7 wcode_X7_isNode rfl (by decide +kernel) ⟨(Nat.le_of_ble_eq_true rfl), (Nat.le_of_ble_eq_true rfl)⟩) rfl (zrecv B (zat (by decide) (z111 _ _ _)) cl7) zid rfl (Nat.le_of_ble_eq_true rfl) dX7_disconnect_3 ⟨(Nat.le_of_ble_eq_true rfl), (Nat.le_of_ble_eq_true rfl)⟩ (fun v9 u9 hv9 => ?_)
  subst hv9
  refine zv_st (st' := [.int (m_X7_isNode c x), .ref (b + 111)]) rfl ?_
  refine zv_if_eq (pc := 6) (tgt := 17) B dX7_disconnect_6 rfl (fun h1 => ?_) (fun h1 => ?_)
  · refine zv_iconst (pc := 17) (v := 1) B rfl dX7_disconnect_17 ?_
    refine zv_goto (pc := 18) (tgt := 35) B rfl dX7_disconnect_18 ?_
    refine zs_put9 (pc := 35) (f := 12) (F := fun x9 => [.ref (b + 112), .ref (b + 113), .ref (b + 114), .ref (b + 115), .ref (b + 116), .ref (b + 117), .ref (b + 118), .ref (b + 119), .ref (b + 120), .ref (b + 121), .ref (b + 122), .ref (b + 123), .int (x9 12), .int (x9 13), .int (x9 14), .int (x9 15), .int (x9 16), .int (x9 17), .int (x9 18), .int (x9 19), .int (x9 20), .int (x9 21), .int (x9 22), .int (x9 23), .int (x9 24), .long (w 111)]) B zid (by decide) rfl (fun x => z111 x _ _) cl7 inX7 tyX7 tyX7_ok nmX7 (by decide) wf_X7_47 rfl rfl rfl rfl (Nat.le_of_ble_eq_true rfl) (fun _ _ => rfl) dX7_disconnect_35 ?_
    refine zv_aload_n (pc := 38) B 0 rfl dX7_disconnect_38 ?_
    refine zv_get (pc := 39) (v := .int ((zup c 111 12 1) 111 12)) B (zat (by decide) (z111 _ _ _)) cl7 inX7 12 (by decide) wf_X7_47 rfl dX7_disconnect_39 ?_
    refine zv_topi (y := 1) (by rw [zup_s]) ?_
    refine zv_if_le (pc := 42) (tgt := 47) B dX7_disconnect_42 rfl (fun h9 => absurd h9 (by decide)) (fun _ => ?_)
    refine zv_iconst (pc := 45) (v := 0) B rfl dX7_disconnect_45 ?_
    have hE3 : (0, zup c 111 12 1) = m_X7_disconnect c x y := (by unfold m_X7_disconnect; rw [if_pos h1])
    exact zv_iret (pc := 46) B (0) hr (fun H hP => ⟨(), ⟨(by rw [(zp2 hE3).1]), (by rw [(zp2 hE3).2]; exact (zfr.up zfr.refl (by omega))), (by rw [(zp2 hE3).2]; exact (zG.up hg (show zn _ ≤ zT9 from zn_T _)))⟩, (by rw [(zp2 hE3).2]; exact hP)⟩) (Nat.le_of_ble_eq_true rfl) (Nat.le_of_ble_eq_true rfl) dX7_disconnect_46
  · refine zv_aload_n (pc := 9) B 0 rfl dX7_disconnect_9 ?_
    refine zv_iload_n (pc := 10) B 2 rfl dX7_disconnect_10 ?_
    refine zv_callV (pc := 11) (As := [.int y]) (rest := [.ref (b + 111)]) B (k_X7_isNode l E b _ _ _ _  y) (zcwV 1 1 B wm_X7_110 wi_X7_isNode wv_X7_isNode wn_X7 wcode_X7_isNode rfl (by decide +kernel) ⟨(Nat.le_of_ble_eq_true rfl), (Nat.le_of_ble_eq_true rfl)⟩) rfl (zrecv B (zat (by decide) (z111 _ _ _)) cl7) zid rfl (Nat.le_of_ble_eq_true rfl) dX7_disconnect_11 ⟨(Nat.le_of_ble_eq_true rfl), (Nat.le_of_ble_eq_true rfl)⟩ (fun v9 u9 hv9 => ?_)
    subst hv9
    refine zv_st (st' := [.int (m_X7_isNode c y), .ref (b + 111)]) rfl ?_
    refine zv_if_ne (pc := 14) (tgt := 21) B dX7_disconnect_14 rfl (fun h4 => ?_) (fun h4 => ?_)
    · have hnx := nd_lt hg h1
      have hny := nd_lt hg h4
      have hbx := nd_ok hg h1
      have hby := nd_ok hg h4
      have hc4 : zn (c 120 (zn y)) ≤ 4 := hg 120 _
      refine zv_aload_n (pc := 21) B 0 rfl dX7_disconnect_21 ?_
      refine zv_iload_n (pc := 22) B 1 rfl dX7_disconnect_22 ?_
      refine zv_iload_n (pc := 23) B 2 rfl dX7_disconnect_23 ?_
      refine zv_st (st' := [.int (nI (zn y)), .int x, .ref (b + 111), .ref (b + 111)]) (by rw [← zn_eq y]) ?_
      refine zv_callV (pc := 24) (As := [.int x, .int (nI (zn y))]) (rest := [.ref (b + 111)]) B (k_X7_wire l E b _ _ _ _  x hby hg) (zcwV 2 0 B wm_X7_106 wi_X7_wire wv_X7_wire wn_X7 wcode_X7_wire rfl (by decide +kernel) ⟨(Nat.le_of_ble_eq_true rfl), (Nat.le_of_ble_eq_true rfl)⟩) rfl (zrecv B (zat (by decide) (z111 _ _ _)) cl7) zid rfl (Nat.le_of_ble_eq_true rfl) dX7_disconnect_24 ⟨(Nat.le_of_ble_eq_true rfl), (Nat.le_of_ble_eq_true rfl)⟩ (fun v9 u9 hv9 => ?_)
      subst hv9
      refine zv_st (st' := [.int (m_X7_wire c x (zn y)), .ref (b + 111)]) rfl ?_
      refine zv_if_ge (pc := 27) (tgt := 34) B dX7_disconnect_27 rfl (fun h5 => ?_) (fun h5 => ?_)
      · refine zv_iconst (pc := 34) (v := 0) B rfl dX7_disconnect_34 ?_
        refine zs_put9 (pc := 35) (f := 12) (F := fun x9 => [.ref (b + 112), .ref (b + 113), .ref (b + 114), .ref (b + 115), .ref (b + 116), .ref (b + 117), .ref (b + 118), .ref (b + 119), .ref (b + 120), .ref (b + 121), .ref (b + 122), .ref (b + 123), .int (x9 12), .int (x9 13), .int (x9 14), .int (x9 15), .int (x9 16), .int (x9 17), .int (x9 18), .int (x9 19), .int (x9 20), .int (x9 21), .int (x9 22), .int (x9 23), .int (x9 24), .long (w 111)]) B zid (by decide) rfl (fun x => z111 x _ _) cl7 inX7 tyX7 tyX7_ok nmX7 (by decide) wf_X7_47 rfl rfl rfl rfl (Nat.le_of_ble_eq_true rfl) (fun _ _ => rfl) dX7_disconnect_35 ?_
        refine zv_aload_n (pc := 38) B 0 rfl dX7_disconnect_38 ?_
        refine zv_get (pc := 39) (v := .int ((zup c 111 12 0) 111 12)) B (zat (by decide) (z111 _ _ _)) cl7 inX7 12 (by decide) wf_X7_47 rfl dX7_disconnect_39 ?_
        refine zv_topi (y := 0) (by rw [zup_s]) ?_
        refine zv_if_le (pc := 42) (tgt := 47) B dX7_disconnect_42 rfl (fun _ => ?_) (fun h9 => absurd (by decide) h9)
        have hwl := wl_ok hg (z_nlt h5)
        refine zv_aload_n (pc := 47) B 0 rfl dX7_disconnect_47 ?_
        refine zv_iload_n (pc := 48) B 1 rfl dX7_disconnect_48 ?_
        refine zv_iload_n (pc := 49) B 2 rfl dX7_disconnect_49 ?_
        refine zv_st (st' := [.int (nI (zn y)), .int x, .ref (b + 111)]) (by rw [← zn_eq y]) ?_
        refine zv_callV (pc := 50) (As := [.int x, .int (nI (zn y))]) (rest := []) B (k_X7_wire l E b _ _ _ _  x hby (zG.up hg (show zn _ ≤ zT9 from zn_T _))) (zcwV 2 0 B wm_X7_106 wi_X7_wire wv_X7_wire wn_X7 wcode_X7_wire rfl (by decide +kernel) ⟨(Nat.le_of_ble_eq_true rfl), (Nat.le_of_ble_eq_true rfl)⟩) rfl (zrecv B (zat (by decide) (z111 _ _ _)) cl7) zid rfl (Nat.le_of_ble_eq_true rfl) dX7_disconnect_50 ⟨(Nat.le_of_ble_eq_true rfl), (Nat.le_of_ble_eq_true rfl)⟩ (fun v9 u9 hv9 => ?_)
        subst hv9
        refine zv_st (st' := [.int (m_X7_wire (zup c 111 12 0) x (zn y))]) rfl ?_
        refine zv_topi (y := m_X7_wire c x (zn y)) (wire_congr (zup_i _ _ _ (by decide)) (zup_i _ _ _ (by decide)) _ _) ?_
        refine zv_istore_n (pc := 53) (L' := [(3, .int (m_X7_wire c x (zn y))), (0, .ref (b + 111)), (1, .int x), (2, .int y)]) B (by decide) rfl dX7_disconnect_53 ?_
        refine zv_aload_n (pc := 54) B 1 rfl dX7_disconnect_54 ?_
        refine zv_get (pc := 55) (v := .ref (b + 119)) B (zat (by decide) (z111 _ _ _)) cl7 inX7 7 (by decide) wf_X7_31 rfl dX7_disconnect_55 ?_
        refine zv_iconst (pc := 58) (v := 4) B rfl dX7_disconnect_58 ?_
        refine zv_iload_n (pc := 59) B 3 rfl dX7_disconnect_59 ?_
        refine zv_imul (pc := 60) B dX7_disconnect_60 ?_
        refine zv_topi (y := nI (4 * zn y)) (zmll rfl) ?_
        refine zv_iload_n (pc := 61) B 0 rfl dX7_disconnect_61 ?_
        refine zv_iadd (pc := 62) B dX7_disconnect_62 ?_
        refine zv_topi (y := nI (4 * zn y + zn (m_X7_wire c x (zn y)))) (zadl rfl) ?_
        refine zv_iald (pc := 63) (jj := (4 * zn y + zn (m_X7_wire c x (zn y)))) B (zat (by decide) (z119 _ _ _)) rfl (by omega) (by decide) dX7_disconnect_63 ?_
        refine zv_topi (y := c 119 (4 * zn y + zn (m_X7_wire c x (zn y)))) (by rw [zup_i (i := 111) (i' := 119) _ _ _ (by decide)]) ?_
        refine zv_istore (pc := 64) (L' := [(4, .int (c 119 (4 * zn y + zn (m_X7_wire c x (zn y))))), (3, .int (m_X7_wire c x (zn y))), (0, .ref (b + 111)), (1, .int x), (2, .int y)]) B (by decide) rfl dX7_disconnect_64 ?_
        refine zv_aload_n (pc := 66) B 2 rfl dX7_disconnect_66 ?_
        refine zv_get (pc := 67) (v := .ref (b + 120)) B (zat (by decide) (z111 _ _ _)) cl7 inX7 8 (by decide) wf_X7_34 rfl dX7_disconnect_67 ?_
        refine zv_iload_n (pc := 70) B 4 rfl dX7_disconnect_70 ?_
        refine zv_dup2 (pc := 71) B rfl rfl dX7_disconnect_71 ?_
        refine zv_iald (pc := 72) (jj := (zn y)) B (zat (by decide) (z120 _ _ _)) (zn_eq y) hby (by decide) dX7_disconnect_72 ?_
        refine zv_topi (y := c 120 (zn y)) (by rw [zup_i (i := 111) (i' := 120) _ _ _ (by decide)]) ?_
        refine zv_iconst (pc := 73) (v := 1) B rfl dX7_disconnect_73 ?_
        refine zv_isub (pc := 74) B dX7_disconnect_74 ?_
        refine zv_topi (y := nI (zn (c 120 (zn y)) - 1)) (zn_pred (by omega)) ?_
        refine zs_iast (pc := 75) (jj := (zn y)) B zid (by decide) rfl (fun x w e => z120 x w e) (zn_eq y) hby (by decide) dX7_disconnect_75 ?_
        refine zv_iconst (pc := 76) (v := 4) B rfl dX7_disconnect_76 ?_
        refine zv_iload_n (pc := 77) B 4 rfl dX7_disconnect_77 ?_
        refine zv_imul (pc := 78) B dX7_disconnect_78 ?_
        refine zv_topi (y := nI (4 * zn y)) (zmll rfl) ?_
        refine zv_iload_n (pc := 79) B 1 rfl dX7_disconnect_79 ?_
        refine zv_iadd (pc := 80) B dX7_disconnect_80 ?_
        refine zv_topi (y := nI (4 * zn y + zn (m_X7_wire c x (zn y)))) (zadl rfl) ?_
        refine zv_istore (pc := 81) (L' := [(5, .int (nI (4 * zn y + zn (m_X7_wire c x (zn y))))), (4, .int (c 119 (4 * zn y + zn (m_X7_wire c x (zn y))))), (3, .int (m_X7_wire c x (zn y))), (0, .ref (b + 111)), (1, .int x), (2, .int y)]) B (by decide) rfl dX7_disconnect_81 ?_
        have loop1 : ∀ (K : Nat → (Nat → Nat → Int32) → Int32 × (Nat → Nat → Int32)) (n : Nat) (k : Nat) (c1 : Nat → Nat → Int32), zfr 118 124 111 112 c c1 → zG c1 → 4 * zn y + zn (m_X7_wire c x (zn y)) ≤ k → (∀ q, q < 4 * zn y + zn (m_X7_wire c x (zn y)) ∨ k ≤ q → c1 118 q = c 118 q) → (∀ q, 4 * zn y + zn (m_X7_wire c x (zn y)) ≤ q → q < k → c1 118 q = c 118 (q + 1)) → c1 120 (zn y) = nI (zn (c 120 (zn y)) - 1) → (∀ q, q ≠ zn y → c1 120 q = c 120 q) → c1 111 13 = c 111 13 → k + n = 4 * zn y + (zn (c 120 (zn y)) - 1) → g1_X7_disconnect c x y n k c1 K = m_X7_disconnect c x y → (∀ (k : Nat) (c1 : Nat → Nat → Int32), zfr 118 124 111 112 c c1 → zG c1 → 4 * zn y + zn (m_X7_wire c x (zn y)) ≤ k → (∀ q, q < 4 * zn y + zn (m_X7_wire c x (zn y)) ∨ k ≤ q → c1 118 q = c 118 q) → (∀ q, 4 * zn y + zn (m_X7_wire c x (zn y)) ≤ q → q < k → c1 118 q = c 118 (q + 1)) → c1 120 (zn y) = nI (zn (c 120 (zn y)) - 1) → (∀ q, q ≠ zn y → c1 120 q = c 120 q) → c1 111 13 = c 111 13 → k = 4 * zn y + (zn (c 120 (zn y)) - 1) → K k c1 = m_X7_disconnect c x y → zV p l e (zRm 2 0 0) s m args below meth c9 (MQ below (zQ b (fun v9 (_ : Unit) => v9 = some (.int (m_X7_disconnect c x y).1) ∧ zfr 118 124 111 112 c (m_X7_disconnect c x y).2 ∧ zG (m_X7_disconnect c x y).2) (fun _ => zH E b ((m_X7_disconnect c x y).2) w en ea)) args s 0 0 (zA b)) 6 b (zH E b c1 w en ea) 136 [(0, .ref (b + 111)), (1, .int x), (2, .int y), (3, .int (m_X7_wire c x (zn y))), (4, .int (c 119 (4 * zn y + zn (m_X7_wire c x (zn y))))), (5, .int (nI k))] [] 0 0) → zV p l e (zRm 2 0 0) s m args below meth c9 (MQ below (zQ b (fun v9 (_ : Unit) => v9 = some (.int (m_X7_disconnect c x y).1) ∧ zfr 118 124 111 112 c (m_X7_disconnect c x y).2 ∧ zG (m_X7_disconnect c x y).2) (fun _ => zH E b ((m_X7_disconnect c x y).2) w en ea)) args s 0 0 (zA b)) 6 b (zH E b c1 w en ea) 83 [(0, .ref (b + 111)), (1, .int x), (2, .int y), (3, .int (m_X7_wire c x (zn y))), (4, .int (c 119 (4 * zn y + zn (m_X7_wire c x (zn y))))), (5, .int (nI k))] [] 0 0 := by
          intro K n
          induction n with
          | zero =>
            intro k c1 hF1 hg1 hka hs1 hs2 hc1 hc2 hn1 hi hE901 hK
            refine zv_iload (pc := 83) B 5 rfl dX7_disconnect_83 ?_
            refine zv_iconst (pc := 85) (v := 4) B rfl dX7_disconnect_85 ?_
            refine zv_iload_n (pc := 86) B 2 rfl dX7_disconnect_86 ?_
            refine zv_imul (pc := 87) B dX7_disconnect_87 ?_
            refine zv_topi (y := nI (4 * zn y)) (zmll rfl) ?_
            refine zv_aload_n (pc := 88) B 0 rfl dX7_disconnect_88 ?_
            refine zv_get (pc := 89) (v := .ref (b + 120)) B (zat (by decide) (z111 _ _ _)) cl7 inX7 8 (by decide) wf_X7_34 rfl dX7_disconnect_89 ?_
            refine zv_iload_n (pc := 92) B 2 rfl dX7_disconnect_92 ?_
            refine zv_iald (pc := 93) (jj := (zn y)) B (zat (by decide) (z120 _ _ _)) (zn_eq y) hby (by decide) dX7_disconnect_93 ?_
            refine zv_iadd (pc := 94) B dX7_disconnect_94 ?_
            refine zv_topi (y := nI (4 * zn y + (zn (c 120 (zn y)) - 1))) ((by rw [hc1, nI_add])) ?_
            refine zv_icmp_ge (pc := 95) (tgt := 136) B dX7_disconnect_95 rfl (fun _ => ?_) (fun h9 => absurd ((z_le (a := (4 * zn y + (zn (c 120 (zn y)) - 1))) (b := k) rfl rfl (by omega) (by omega)).mpr (by omega)) h9)
            exact hK k c1 hF1 hg1 hka hs1 hs2 hc1 hc2 hn1 (by omega) (Eq.trans (by rw [g1_X7_disconnect]) hE901)
          | succ n ih =>
            intro k c1 hF1 hg1 hka hs1 hs2 hc1 hc2 hn1 hi hE901 hK
            refine zv_iload (pc := 83) B 5 rfl dX7_disconnect_83 ?_
            refine zv_iconst (pc := 85) (v := 4) B rfl dX7_disconnect_85 ?_
            refine zv_iload_n (pc := 86) B 2 rfl dX7_disconnect_86 ?_
            refine zv_imul (pc := 87) B dX7_disconnect_87 ?_
            refine zv_topi (y := nI (4 * zn y)) (zmll rfl) ?_
            refine zv_aload_n (pc := 88) B 0 rfl dX7_disconnect_88 ?_
            refine zv_get (pc := 89) (v := .ref (b + 120)) B (zat (by decide) (z111 _ _ _)) cl7 inX7 8 (by decide) wf_X7_34 rfl dX7_disconnect_89 ?_
            refine zv_iload_n (pc := 92) B 2 rfl dX7_disconnect_92 ?_
            refine zv_iald (pc := 93) (jj := (zn y)) B (zat (by decide) (z120 _ _ _)) (zn_eq y) hby (by decide) dX7_disconnect_93 ?_
            refine zv_iadd (pc := 94) B dX7_disconnect_94 ?_
            refine zv_topi (y := nI (4 * zn y + (zn (c 120 (zn y)) - 1))) ((by rw [hc1, nI_add])) ?_
            refine zv_icmp_ge (pc := 95) (tgt := 136) B dX7_disconnect_95 rfl (fun h9 => absurd h9 (fun q9 => absurd ((z_le (a := (4 * zn y + (zn (c 120 (zn y)) - 1))) (b := k) rfl rfl (by omega) (by omega)).mp q9) (by omega))) (fun _ => ?_)
            refine zv_aload_n (pc := 98) B 0 rfl dX7_disconnect_98 ?_
            refine zv_get (pc := 99) (v := .ref (b + 118)) B (zat (by decide) (z111 _ _ _)) cl7 inX7 6 (by decide) wf_X7_28 rfl dX7_disconnect_99 ?_
            refine zv_iload (pc := 102) B 5 rfl dX7_disconnect_102 ?_
            refine zv_aload_n (pc := 104) B 0 rfl dX7_disconnect_104 ?_
            refine zv_get (pc := 105) (v := .ref (b + 118)) B (zat (by decide) (z111 _ _ _)) cl7 inX7 6 (by decide) wf_X7_28 rfl dX7_disconnect_105 ?_
            refine zv_iload (pc := 108) B 5 rfl dX7_disconnect_108 ?_
            refine zv_iconst (pc := 110) (v := 1) B rfl dX7_disconnect_110 ?_
            refine zv_iadd (pc := 111) B dX7_disconnect_111 ?_
            refine zv_topi (y := nI (k + 1)) (nI_add k 1) ?_
            refine zv_iald (pc := 112) (jj := (k + 1)) B (zat (by decide) (z118 _ _ _)) rfl (by omega) (by decide) dX7_disconnect_112 ?_
            refine zs_iast (pc := 113) (jj := k) B zid (by decide) rfl (fun x w e => z118 x w e) rfl (by omega) (by decide) dX7_disconnect_113 ?_
            refine zv_aload_n (pc := 114) B 0 rfl dX7_disconnect_114 ?_
            refine zv_get (pc := 115) (v := .ref (b + 119)) B (zat (by decide) (z111 _ _ _)) cl7 inX7 7 (by decide) wf_X7_31 rfl dX7_disconnect_115 ?_
            refine zv_iload (pc := 118) B 5 rfl dX7_disconnect_118 ?_
            refine zv_aload_n (pc := 120) B 0 rfl dX7_disconnect_120 ?_
            refine zv_get (pc := 121) (v := .ref (b + 119)) B (zat (by decide) (z111 _ _ _)) cl7 inX7 7 (by decide) wf_X7_31 rfl dX7_disconnect_121 ?_
            refine zv_iload (pc := 124) B 5 rfl dX7_disconnect_124 ?_
            refine zv_iconst (pc := 126) (v := 1) B rfl dX7_disconnect_126 ?_
            refine zv_iadd (pc := 127) B dX7_disconnect_127 ?_
            refine zv_topi (y := nI (k + 1)) (nI_add k 1) ?_
            refine zv_iald (pc := 128) (jj := (k + 1)) B (zat (by decide) (z119 _ _ _)) rfl (by omega) (by decide) dX7_disconnect_128 ?_
            refine zv_topi (y := c1 119 (k + 1)) (by rw [zup_i (i := 118) (i' := 119) _ _ _ (by decide)]) ?_
            refine zs_iast (pc := 129) (jj := k) B zid (by decide) rfl (fun x w e => z119 x w e) rfl (by omega) (by decide) dX7_disconnect_129 ?_
            refine zv_iinc (pc := 130) (v := nI (k + 1)) (L' := [(5, .int (nI (k + 1))), (0, .ref (b + 111)), (1, .int x), (2, .int y), (3, .int (m_X7_wire c x (zn y))), (4, .int (c 119 (4 * zn y + zn (m_X7_wire c x (zn y)))))]) B 5 rfl (nI_1 _) (by decide) rfl dX7_disconnect_130 ?_
            refine zv_goto (pc := 133) (tgt := 83) B rfl dX7_disconnect_133 ?_
            refine zv_loc (L' := [(0, .ref (b + 111)), (1, .int x), (2, .int y), (3, .int (m_X7_wire c x (zn y))), (4, .int (c 119 (4 * zn y + zn (m_X7_wire c x (zn y))))), (5, .int (nI (k + 1)))]) [1, 2, 3, 4, 5, 0] rfl ?_
            exact ih (k + 1) (zup (zup c1 118 k (c1 118 (k + 1))) 119 k (c1 119 (k + 1))) (zfr.up (zfr.up hF1 (by omega)) (by omega)) (zG.free (zG.up hg1 (show zn _ ≤ 9 from (show zn _ ≤ 9 from hg1 118 (k + 1)))) (by unfold zfree; omega)) (by omega) (fun q hq => by rw [zup_i _ _ _ (by decide), zup_k _ _ (by omega)]; exact hs1 q (by omega)) (fun q hq1 hq2 => by rw [zup_i _ _ _ (by decide)]; by_cases e : q = k; (· subst e; rw [zup_s]; exact hs1 _ (by omega)); (· rw [zup_k _ _ e]; exact hs2 q hq1 (by omega))) (by rw [zup_i _ _ _ (by decide), zup_i _ _ _ (by decide)]; exact hc1) (fun q hq => by rw [zup_i _ _ _ (by decide), zup_i _ _ _ (by decide)]; exact hc2 q hq) (by rw [zup_i _ _ _ (by decide), zup_i _ _ _ (by decide)]; exact hn1) (by omega) (Eq.trans (by rw [g1_X7_disconnect]) hE901) hK
        refine zv_loc (L' := [(0, .ref (b + 111)), (1, .int x), (2, .int y), (3, .int (m_X7_wire c x (zn y))), (4, .int (c 119 (4 * zn y + zn (m_X7_wire c x (zn y))))), (5, .int (nI (4 * zn y + zn (m_X7_wire c x (zn y)))))]) [3, 4, 5, 2, 1, 0] rfl ?_
        refine loop1 (fun k c1 => (c 119 (4 * zn y + zn (m_X7_wire c x (zn y))), (m_X7_lays c1))) (zn (c 120 (zn y)) - 1 - zn (m_X7_wire c x (zn y))) (4 * zn y + zn (m_X7_wire c x (zn y))) (zup (zup c 111 12 0) 120 (zn y) (nI (zn (c 120 (zn y)) - 1))) (zfr.up (zfr.up zfr.refl (by omega)) (by omega)) (zG.up (zG.up hg (show zn _ ≤ zT9 from zn_T _)) (show zn _ ≤ 4 from (show zn _ ≤ 4 by rw [zn_nI (by omega)]; omega))) (Nat.le_refl _) (fun q _ => by rw [zup_i _ _ _ (by decide), zup_i _ _ _ (by decide)]) (fun q hq1 hq2 => absurd hq2 (by omega)) (by rw [zup_s]) (fun q hq => by rw [zup_k _ _ hq, zup_i _ _ _ (by decide)]) (by rw [zup_i _ _ _ (by decide), zup_k _ _ (by decide)]) (by omega) (by unfold m_X7_disconnect; rw [if_neg h1, if_neg h4, if_pos h5]) ?_
        intro k c1 hF1 hg1 hka hs1 hs2 hc1 hc2 hn1 hx
        intro (hE951 : (c 119 (4 * zn y + zn (m_X7_wire c x (zn y))), (m_X7_lays c1)) = m_X7_disconnect c x y)
        refine zv_aload_n (pc := 136) B 0 rfl dX7_disconnect_136 ?_
        refine zv_callV (pc := 137) (As := []) (rest := []) B (k_X7_lays l E b _ _ _ _  (by rw [hn1]; exact dis_shift hA hny (hF1 114 (by omega)) hwl hc1 hc2 (fun q hq => hs1 q (by omega)) (fun q h1 h2 => hs2 q h1 (by omega)) (fun k => hg 120 k)) hg1) (zcwV 0 1 B wm_X7_91 wi_X7_lays wv_X7_lays wn_X7 wcode_X7_lays rfl (by decide +kernel) ⟨(Nat.le_of_ble_eq_true rfl), (Nat.le_of_ble_eq_true rfl)⟩) rfl (zrecv B (zat (by decide) (z111 _ _ _)) cl7) zid rfl (Nat.le_of_ble_eq_true rfl) dX7_disconnect_137 ⟨(Nat.le_of_ble_eq_true rfl), (Nat.le_of_ble_eq_true rfl)⟩ (fun v9 u9 hv9 => ?_)
        obtain ⟨rfl, hF2009, hg2009⟩ := hv9
        refine zv_st (st' := []) rfl ?_
        refine zv_iload (pc := 140) B 4 rfl dX7_disconnect_140 ?_
        have hE10 : (c 119 (4 * zn y + zn (m_X7_wire c x (zn y))), (m_X7_lays c1)) = m_X7_disconnect c x y := hE951
        exact zv_iret (pc := 142) B (c 119 (4 * zn y + zn (m_X7_wire c x (zn y)))) hr (fun H hP => ⟨(), ⟨(by rw [(zp2 hE10).1]), (by rw [(zp2 hE10).2]; exact (zfr.call2 hF1 hF2009 (by omega))), (by rw [(zp2 hE10).2]; exact hg2009)⟩, (by rw [(zp2 hE10).2]; exact hP)⟩) (Nat.le_of_ble_eq_true rfl) (Nat.le_of_ble_eq_true rfl) dX7_disconnect_142
      · refine zv_iconst (pc := 30) (v := 2) B rfl dX7_disconnect_30 ?_
        refine zv_goto (pc := 31) (tgt := 35) B rfl dX7_disconnect_31 ?_
        refine zs_put9 (pc := 35) (f := 12) (F := fun x9 => [.ref (b + 112), .ref (b + 113), .ref (b + 114), .ref (b + 115), .ref (b + 116), .ref (b + 117), .ref (b + 118), .ref (b + 119), .ref (b + 120), .ref (b + 121), .ref (b + 122), .ref (b + 123), .int (x9 12), .int (x9 13), .int (x9 14), .int (x9 15), .int (x9 16), .int (x9 17), .int (x9 18), .int (x9 19), .int (x9 20), .int (x9 21), .int (x9 22), .int (x9 23), .int (x9 24), .long (w 111)]) B zid (by decide) rfl (fun x => z111 x _ _) cl7 inX7 tyX7 tyX7_ok nmX7 (by decide) wf_X7_47 rfl rfl rfl rfl (Nat.le_of_ble_eq_true rfl) (fun _ _ => rfl) dX7_disconnect_35 ?_
        refine zv_aload_n (pc := 38) B 0 rfl dX7_disconnect_38 ?_
        refine zv_get (pc := 39) (v := .int ((zup c 111 12 2) 111 12)) B (zat (by decide) (z111 _ _ _)) cl7 inX7 12 (by decide) wf_X7_47 rfl dX7_disconnect_39 ?_
        refine zv_topi (y := 2) (by rw [zup_s]) ?_
        refine zv_if_le (pc := 42) (tgt := 47) B dX7_disconnect_42 rfl (fun h9 => absurd h9 (by decide)) (fun _ => ?_)
        refine zv_iconst (pc := 45) (v := 0) B rfl dX7_disconnect_45 ?_
        have hE12 : (0, zup c 111 12 2) = m_X7_disconnect c x y := (by unfold m_X7_disconnect; rw [if_neg h1, if_neg h4, if_neg h5])
        exact zv_iret (pc := 46) B (0) hr (fun H hP => ⟨(), ⟨(by rw [(zp2 hE12).1]), (by rw [(zp2 hE12).2]; exact (zfr.up zfr.refl (by omega))), (by rw [(zp2 hE12).2]; exact (zG.up hg (show zn _ ≤ zT9 from zn_T _)))⟩, (by rw [(zp2 hE12).2]; exact hP)⟩) (Nat.le_of_ble_eq_true rfl) (Nat.le_of_ble_eq_true rfl) dX7_disconnect_46
    · refine zv_iconst (pc := 17) (v := 1) B rfl dX7_disconnect_17 ?_
      refine zv_goto (pc := 18) (tgt := 35) B rfl dX7_disconnect_18 ?_
      refine zs_put9 (pc := 35) (f := 12) (F := fun x9 => [.ref (b + 112), .ref (b + 113), .ref (b + 114), .ref (b + 115), .ref (b + 116), .ref (b + 117), .ref (b + 118), .ref (b + 119), .ref (b + 120), .ref (b + 121), .ref (b + 122), .ref (b + 123), .int (x9 12), .int (x9 13), .int (x9 14), .int (x9 15), .int (x9 16), .int (x9 17), .int (x9 18), .int (x9 19), .int (x9 20), .int (x9 21), .int (x9 22), .int (x9 23), .int (x9 24), .long (w 111)]) B zid (by decide) rfl (fun x => z111 x _ _) cl7 inX7 tyX7 tyX7_ok nmX7 (by decide) wf_X7_47 rfl rfl rfl rfl (Nat.le_of_ble_eq_true rfl) (fun _ _ => rfl) dX7_disconnect_35 ?_
      refine zv_aload_n (pc := 38) B 0 rfl dX7_disconnect_38 ?_
      refine zv_get (pc := 39) (v := .int ((zup c 111 12 1) 111 12)) B (zat (by decide) (z111 _ _ _)) cl7 inX7 12 (by decide) wf_X7_47 rfl dX7_disconnect_39 ?_
      refine zv_topi (y := 1) (by rw [zup_s]) ?_
      refine zv_if_le (pc := 42) (tgt := 47) B dX7_disconnect_42 rfl (fun h9 => absurd h9 (by decide)) (fun _ => ?_)
      refine zv_iconst (pc := 45) (v := 0) B rfl dX7_disconnect_45 ?_
      have hE14 : (0, zup c 111 12 1) = m_X7_disconnect c x y := (by unfold m_X7_disconnect; rw [if_neg h1, if_pos h4])
      exact zv_iret (pc := 46) B (0) hr (fun H hP => ⟨(), ⟨(by rw [(zp2 hE14).1]), (by rw [(zp2 hE14).2]; exact (zfr.up zfr.refl (by omega))), (by rw [(zp2 hE14).2]; exact (zG.up hg (show zn _ ≤ zT9 from zn_T _)))⟩, (by rw [(zp2 hE14).2]; exact hP)⟩) (Nat.le_of_ble_eq_true rfl) (Nat.le_of_ble_eq_true rfl) dX7_disconnect_46
