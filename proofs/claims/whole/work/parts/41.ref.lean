def m_X7_setWave (c : Nat → Nat → Int32) (x : Int32) : Int32 × (Nat → Nat → Int32) := if x = 115 then (((((m_X7_checked c 1).2) 111 15).toUInt32 % 65536).toInt32, zup ((m_X7_checked c 1).2) 111 15 x) else (if x = 113 then (((((m_X7_checked c 1).2) 111 15).toUInt32 % 65536).toInt32, zup ((m_X7_checked c 1).2) 111 15 x) else (if x = 116 then (((((m_X7_checked c 1).2) 111 15).toUInt32 % 65536).toInt32, zup ((m_X7_checked c 1).2) 111 15 x) else (97, (m_X7_checked c 0).2)))
set_option maxRecDepth 100000 in
set_option maxHeartbeats 400000 in
theorem k_X7_setWave (l : Launch) (E : zE) (b : Nat) (c : Nat → Nat → Int32) (w : Nat → Int64) (en : Nat → Nat) (ea : Nat → Nat → Int32) (x : Int32) (hg : zG c) : zM l yX7_setWave (.code yX7_setWave cX7_setWave 3 (some .char) :: zAll) (zRm 2 0 0) E b [.ref (b + 111), .int x] (zH E b c w en ea) (fun v9 (_ : Unit) => v9 = some (.int (m_X7_setWave c x).1) ∧ zfr 111 112 111 111 c (m_X7_setWave c x).2 ∧ zG (m_X7_setWave c x).2) (fun _ => zH E b ((m_X7_setWave c x).2) w en ea) 0 0 := by
  refine zM_of "ToneGraphModel" (by decide) rfl rfl (Nat.le_of_ble_eq_true rfl) (L0 := [(0, .ref (b + 111)), (1, .int x)]) rfl ?_
  intro p e s m args below meth c9 B hr hname
  refine zv_aload_n (pc := 0) B 0 rfl dX7_setWave_0 ?_
  refine zv_iload_n (pc := 1) B 1 rfl dX7_setWave_1 ?_
  refine zv_bipush (pc := 2) (v := 115) B rfl dX7_setWave_2 ?_
  refine zv_icmp_eq (pc := 4) (tgt := 19) B dX7_setWave_4 rfl (fun h1 => ?_) (fun h1 => ?_)
  · refine zv_iconst (pc := 19) (v := 1) B rfl dX7_setWave_19 ?_
    refine zv_goto (pc := 20) (tgt := 24) B rfl dX7_setWave_20 ?_
    refine zv_callV (pc := 24) (As := [.int 1]) (rest := []) B (k_X7_checked l E b _ _ _ _  1 hg) (zcwV 1 0 B wm_X7_121 wi_X7_checked wv_X7_checked wn_X7 wcode_X7_checked rfl (by decide +kernel) ⟨(Nat.le_of_ble_eq_true rfl), (Nat.le_of_ble_eq_true rfl)⟩) rfl (zrecv B (zat (by decide) (z111 _ _ _)) cl7) zid rfl (Nat.le_of_ble_eq_true rfl) dX7_setWave_24 ⟨(Nat.le_of_ble_eq_true rfl), (Nat.le_of_ble_eq_true rfl)⟩ (fun v9 u9 hv9 => ?_)
    obtain ⟨rfl, hF2002, hg2002⟩ := hv9
    refine zv_st (st' := [.int ((m_X7_checked c 1).1)]) rfl ?_
    refine zv_if_le (pc := 27) (tgt := 33) B dX7_setWave_27 rfl (fun _ => ?_) (fun h9 => absurd (ck0 _) h9)
    refine zv_aload_n (pc := 33) B 0 rfl dX7_setWave_33 ?_
    refine zv_get (pc := 34) (v := .int (((m_X7_checked c 1).2) 111 15)) B (zat (by decide) (z111 _ _ _)) cl7 inX7 15 (by decide) wf_X7_57 rfl dX7_setWave_34 ?_
    refine zv_istore_n (pc := 37) (L' := [(2, .int (((m_X7_checked c 1).2) 111 15)), (0, .ref (b + 111)), (1, .int x)]) B (by decide) rfl dX7_setWave_37 ?_
    refine zv_aload_n (pc := 38) B 1 rfl dX7_setWave_38 ?_
    refine zv_iload_n (pc := 39) B 2 rfl dX7_setWave_39 ?_
    refine zs_put9 (pc := 40) (f := 15) (F := fun x9 => [.ref (b + 112), .ref (b + 113), .ref (b + 114), .ref (b + 115), .ref (b + 116), .ref (b + 117), .ref (b + 118), .ref (b + 119), .ref (b + 120), .ref (b + 121), .ref (b + 122), .ref (b + 123), .int (x9 12), .int (x9 13), .int (x9 14), .int (x9 15), .int (x9 16), .int (x9 17), .int (x9 18), .int (x9 19), .int (x9 20), .int (x9 21), .int (x9 22), .int (x9 23), .int (x9 24), .long (w 111)]) B zid (by decide) rfl (fun x => z111 x _ _) cl7 inX7 tyX7 tyX7_ok nmX7 (by decide) wf_X7_57 rfl rfl rfl rfl (Nat.le_of_ble_eq_true rfl) (fun _ _ => rfl) dX7_setWave_40 ?_
    refine zv_iload_n (pc := 43) B 0 rfl dX7_setWave_43 ?_
    refine zv_i2c (pc := 44) B dX7_setWave_44 ?_
    have hE4 : (((((m_X7_checked c 1).2) 111 15).toUInt32 % 65536).toInt32, zup ((m_X7_checked c 1).2) 111 15 x) = m_X7_setWave c x := (by unfold m_X7_setWave; rw [if_pos h1])
    exact zv_zret (pc := 45) B (((((m_X7_checked c 1).2) 111 15).toUInt32 % 65536).toInt32) (znar_c (zn_i2c _)) hr (fun H hP => ⟨(), ⟨(by rw [(zp2 hE4).1]), (by rw [(zp2 hE4).2]; exact (zfr.up (zfr.call2 zfr.refl hF2002 (by omega)) (by omega))), (by rw [(zp2 hE4).2]; exact (zG.up hg2002 (show zn _ ≤ zT9 from zn_T _)))⟩, (by rw [(zp2 hE4).2]; exact hP)⟩) (Nat.le_of_ble_eq_true rfl) (Nat.le_of_ble_eq_true rfl) dX7_setWave_45
  · refine zv_iload_n (pc := 7) B 1 rfl dX7_setWave_7 ?_
    refine zv_bipush (pc := 8) (v := 113) B rfl dX7_setWave_8 ?_
    refine zv_icmp_eq (pc := 10) (tgt := 19) B dX7_setWave_10 rfl (fun h5 => ?_) (fun h5 => ?_)
    · refine zv_iconst (pc := 19) (v := 1) B rfl dX7_setWave_19 ?_
      refine zv_goto (pc := 20) (tgt := 24) B rfl dX7_setWave_20 ?_
      refine zv_callV (pc := 24) (As := [.int 1]) (rest := []) B (k_X7_checked l E b _ _ _ _  1 hg) (zcwV 1 0 B wm_X7_121 wi_X7_checked wv_X7_checked wn_X7 wcode_X7_checked rfl (by decide +kernel) ⟨(Nat.le_of_ble_eq_true rfl), (Nat.le_of_ble_eq_true rfl)⟩) rfl (zrecv B (zat (by decide) (z111 _ _ _)) cl7) zid rfl (Nat.le_of_ble_eq_true rfl) dX7_setWave_24 ⟨(Nat.le_of_ble_eq_true rfl), (Nat.le_of_ble_eq_true rfl)⟩ (fun v9 u9 hv9 => ?_)
      obtain ⟨rfl, hF2006, hg2006⟩ := hv9
      refine zv_st (st' := [.int ((m_X7_checked c 1).1)]) rfl ?_
      refine zv_if_le (pc := 27) (tgt := 33) B dX7_setWave_27 rfl (fun _ => ?_) (fun h9 => absurd (ck0 _) h9)
      refine zv_aload_n (pc := 33) B 0 rfl dX7_setWave_33 ?_
      refine zv_get (pc := 34) (v := .int (((m_X7_checked c 1).2) 111 15)) B (zat (by decide) (z111 _ _ _)) cl7 inX7 15 (by decide) wf_X7_57 rfl dX7_setWave_34 ?_
      refine zv_istore_n (pc := 37) (L' := [(2, .int (((m_X7_checked c 1).2) 111 15)), (0, .ref (b + 111)), (1, .int x)]) B (by decide) rfl dX7_setWave_37 ?_
      refine zv_aload_n (pc := 38) B 1 rfl dX7_setWave_38 ?_
      refine zv_iload_n (pc := 39) B 2 rfl dX7_setWave_39 ?_
      refine zs_put9 (pc := 40) (f := 15) (F := fun x9 => [.ref (b + 112), .ref (b + 113), .ref (b + 114), .ref (b + 115), .ref (b + 116), .ref (b + 117), .ref (b + 118), .ref (b + 119), .ref (b + 120), .ref (b + 121), .ref (b + 122), .ref (b + 123), .int (x9 12), .int (x9 13), .int (x9 14), .int (x9 15), .int (x9 16), .int (x9 17), .int (x9 18), .int (x9 19), .int (x9 20), .int (x9 21), .int (x9 22), .int (x9 23), .int (x9 24), .long (w 111)]) B zid (by decide) rfl (fun x => z111 x _ _) cl7 inX7 tyX7 tyX7_ok nmX7 (by decide) wf_X7_57 rfl rfl rfl rfl (Nat.le_of_ble_eq_true rfl) (fun _ _ => rfl) dX7_setWave_40 ?_
      refine zv_iload_n (pc := 43) B 0 rfl dX7_setWave_43 ?_
      refine zv_i2c (pc := 44) B dX7_setWave_44 ?_
      have hE8 : (((((m_X7_checked c 1).2) 111 15).toUInt32 % 65536).toInt32, zup ((m_X7_checked c 1).2) 111 15 x) = m_X7_setWave c x := (by unfold m_X7_setWave; rw [if_neg h1, if_pos h5])
      exact zv_zret (pc := 45) B (((((m_X7_checked c 1).2) 111 15).toUInt32 % 65536).toInt32) (znar_c (zn_i2c _)) hr (fun H hP => ⟨(), ⟨(by rw [(zp2 hE8).1]), (by rw [(zp2 hE8).2]; exact (zfr.up (zfr.call2 zfr.refl hF2006 (by omega)) (by omega))), (by rw [(zp2 hE8).2]; exact (zG.up hg2006 (show zn _ ≤ zT9 from zn_T _)))⟩, (by rw [(zp2 hE8).2]; exact hP)⟩) (Nat.le_of_ble_eq_true rfl) (Nat.le_of_ble_eq_true rfl) dX7_setWave_45
    · refine zv_iload_n (pc := 13) B 1 rfl dX7_setWave_13 ?_
      refine zv_bipush (pc := 14) (v := 116) B rfl dX7_setWave_14 ?_
      refine zv_icmp_ne (pc := 16) (tgt := 23) B dX7_setWave_16 rfl (fun h9 => ?_) (fun h9 => ?_)
      · refine zv_iconst (pc := 23) (v := 0) B rfl dX7_setWave_23 ?_
        refine zv_callV (pc := 24) (As := [.int 0]) (rest := []) B (k_X7_checked l E b _ _ _ _  0 hg) (zcwV 1 0 B wm_X7_121 wi_X7_checked wv_X7_checked wn_X7 wcode_X7_checked rfl (by decide +kernel) ⟨(Nat.le_of_ble_eq_true rfl), (Nat.le_of_ble_eq_true rfl)⟩) rfl (zrecv B (zat (by decide) (z111 _ _ _)) cl7) zid rfl (Nat.le_of_ble_eq_true rfl) dX7_setWave_24 ⟨(Nat.le_of_ble_eq_true rfl), (Nat.le_of_ble_eq_true rfl)⟩ (fun v9 u9 hv9 => ?_)
        obtain ⟨rfl, hF2010, hg2010⟩ := hv9
        refine zv_st (st' := [.int ((m_X7_checked c 0).1)]) rfl ?_
        refine zv_if_le (pc := 27) (tgt := 33) B dX7_setWave_27 rfl (fun h9 => absurd h9 (ck1 _)) (fun _ => ?_)
        refine zv_bipush (pc := 30) (v := 97) B rfl dX7_setWave_30 ?_
        have hE12 : (97, (m_X7_checked c 0).2) = m_X7_setWave c x := (by unfold m_X7_setWave; rw [if_neg h1, if_neg h5, if_neg h9])
        exact zv_zret (pc := 32) B (97) rfl hr (fun H hP => ⟨(), ⟨(by rw [(zp2 hE12).1]), (by rw [(zp2 hE12).2]; exact (zfr.call2 zfr.refl hF2010 (by omega))), (by rw [(zp2 hE12).2]; exact hg2010)⟩, (by rw [(zp2 hE12).2]; exact hP)⟩) (Nat.le_of_ble_eq_true rfl) (Nat.le_of_ble_eq_true rfl) dX7_setWave_32
      · refine zv_iconst (pc := 19) (v := 1) B rfl dX7_setWave_19 ?_
        refine zv_goto (pc := 20) (tgt := 24) B rfl dX7_setWave_20 ?_
        refine zv_callV (pc := 24) (As := [.int 1]) (rest := []) B (k_X7_checked l E b _ _ _ _  1 hg) (zcwV 1 0 B wm_X7_121 wi_X7_checked wv_X7_checked wn_X7 wcode_X7_checked rfl (by decide +kernel) ⟨(Nat.le_of_ble_eq_true rfl), (Nat.le_of_ble_eq_true rfl)⟩) rfl (zrecv B (zat (by decide) (z111 _ _ _)) cl7) zid rfl (Nat.le_of_ble_eq_true rfl) dX7_setWave_24 ⟨(Nat.le_of_ble_eq_true rfl), (Nat.le_of_ble_eq_true rfl)⟩ (fun v9 u9 hv9 => ?_)
        obtain ⟨rfl, hF2013, hg2013⟩ := hv9
        refine zv_st (st' := [.int ((m_X7_checked c 1).1)]) rfl ?_
        refine zv_if_le (pc := 27) (tgt := 33) B dX7_setWave_27 rfl (fun _ => ?_) (fun h9 => absurd (ck0 _) h9)
        refine zv_aload_n (pc := 33) B 0 rfl dX7_setWave_33 ?_
        refine zv_get (pc := 34) (v := .int (((m_X7_checked c 1).2) 111 15)) B (zat (by decide) (z111 _ _ _)) cl7 inX7 15 (by decide) wf_X7_57 rfl dX7_setWave_34 ?_
        refine zv_istore_n (pc := 37) (L' := [(2, .int (((m_X7_checked c 1).2) 111 15)), (0, .ref (b + 111)), (1, .int x)]) B (by decide) rfl dX7_setWave_37 ?_
        refine zv_aload_n (pc := 38) B 1 rfl dX7_setWave_38 ?_
        refine zv_iload_n (pc := 39) B 2 rfl dX7_setWave_39 ?_
        refine zs_put9 (pc := 40) (f := 15) (F := fun x9 => [.ref (b + 112), .ref (b + 113), .ref (b + 114), .ref (b + 115), .ref (b + 116), .ref (b + 117), .ref (b + 118), .ref (b + 119), .ref (b + 120), .ref (b + 121), .ref (b + 122), .ref (b + 123), .int (x9 12), .int (x9 13), .int (x9 14), .int (x9 15), .int (x9 16), .int (x9 17), .int (x9 18), .int (x9 19), .int (x9 20), .int (x9 21), .int (x9 22), .int (x9 23), .int (x9 24), .long (w 111)]) B zid (by decide) rfl (fun x => z111 x _ _) cl7 inX7 tyX7 tyX7_ok nmX7 (by decide) wf_X7_57 rfl rfl rfl rfl (Nat.le_of_ble_eq_true rfl) (fun _ _ => rfl) dX7_setWave_40 ?_
        refine zv_iload_n (pc := 43) B 0 rfl dX7_setWave_43 ?_
        refine zv_i2c (pc := 44) B dX7_setWave_44 ?_
        have hE15 : (((((m_X7_checked c 1).2) 111 15).toUInt32 % 65536).toInt32, zup ((m_X7_checked c 1).2) 111 15 x) = m_X7_setWave c x := (by unfold m_X7_setWave; rw [if_neg h1, if_neg h5, if_pos h9])
        exact zv_zret (pc := 45) B (((((m_X7_checked c 1).2) 111 15).toUInt32 % 65536).toInt32) (znar_c (zn_i2c _)) hr (fun H hP => ⟨(), ⟨(by rw [(zp2 hE15).1]), (by rw [(zp2 hE15).2]; exact (zfr.up (zfr.call2 zfr.refl hF2013 (by omega)) (by omega))), (by rw [(zp2 hE15).2]; exact (zG.up hg2013 (show zn _ ≤ zT9 from zn_T _)))⟩, (by rw [(zp2 hE15).2]; exact hP)⟩) (Nat.le_of_ble_eq_true rfl) (Nat.le_of_ble_eq_true rfl) dX7_setWave_45

def g1_X7_begin (c : Nat → Nat → Int32) (x y : Int32)  : Nat → Nat → (Nat → Nat → Int32) → (Nat → (Nat → Nat → Int32) → Int32 × (Nat → Nat → Int32)) → Int32 × (Nat → Nat → Int32)
  | 0, k, c1, K => K k c1
  | n + 1, k, c1, K => g1_X7_begin c x y n (k + 1) (m_X7_lay c1 (zn (m_X7_voiceFor ((m_X7_checked c 1).2))) k 0) K
def g2_X7_begin (c : Nat → Nat → Int32) (x y : Int32)  : Nat → Nat → (Nat → Nat → Int32) → (Nat → (Nat → Nat → Int32) → Int32 × (Nat → Nat → Int32)) → Int32 × (Nat → Nat → Int32)
  | 0, k, c2, K => K k c2
  | n + 1, k, c2, K => g2_X7_begin c x y n (k + 1) (m_X7_lay c2 (zn (m_X7_voiceFor ((m_X7_checked c 1).2))) k 0) K
def m_X7_begin (c : Nat → Nat → Int32) (x y : Int32) : Int32 × (Nat → Nat → Int32) := if (r_X7_in x 0 59) = 0 then (0, (m_X7_checked c 0).2) else (if (r_X7_in y 1 100) = 0 then (0, (m_X7_checked c 0).2) else (if (m_X7_plays ((m_X7_checked c 1).2) (zn (m_X7_voiceFor ((m_X7_checked c 1).2)))) = 0 then (g1_X7_begin c x y 16 0 (zup ((m_X7_checked c 1).2) 111 20 ((((m_X7_checked c 1).2) 111 20) + 0)) (fun k c1 => ((m_X7_voiceFor ((m_X7_checked c 1).2)), zup (m_X7_lay (m_X7_lay (m_X7_lay (m_X7_lay (m_X7_lay (m_X7_lay (m_X7_lay (m_X7_lay (m_X7_lay c1 (zn (m_X7_voiceFor ((m_X7_checked c 1).2))) 0 1) (zn (m_X7_voiceFor ((m_X7_checked c 1).2))) 2 x) (zn (m_X7_voiceFor ((m_X7_checked c 1).2))) 3 y) (zn (m_X7_voiceFor ((m_X7_checked c 1).2))) 4 (c1 111 15)) (zn (m_X7_voiceFor ((m_X7_checked c 1).2))) 5 (c1 111 16)) (zn (m_X7_voiceFor ((m_X7_checked c 1).2))) 6 (c1 111 17)) (zn (m_X7_voiceFor ((m_X7_checked c 1).2))) 7 (c1 111 18)) (zn (m_X7_voiceFor ((m_X7_checked c 1).2))) 8 (c1 111 19)) (zn (m_X7_voiceFor ((m_X7_checked c 1).2))) 13 (c1 111 21)) 111 21 ((c1 111 21) + 1)))) else (g2_X7_begin c x y 16 0 (zup ((m_X7_checked c 1).2) 111 20 ((((m_X7_checked c 1).2) 111 20) + 1)) (fun k c2 => ((m_X7_voiceFor ((m_X7_checked c 1).2)), zup (m_X7_lay (m_X7_lay (m_X7_lay (m_X7_lay (m_X7_lay (m_X7_lay (m_X7_lay (m_X7_lay (m_X7_lay c2 (zn (m_X7_voiceFor ((m_X7_checked c 1).2))) 0 1) (zn (m_X7_voiceFor ((m_X7_checked c 1).2))) 2 x) (zn (m_X7_voiceFor ((m_X7_checked c 1).2))) 3 y) (zn (m_X7_voiceFor ((m_X7_checked c 1).2))) 4 (c2 111 15)) (zn (m_X7_voiceFor ((m_X7_checked c 1).2))) 5 (c2 111 16)) (zn (m_X7_voiceFor ((m_X7_checked c 1).2))) 6 (c2 111 17)) (zn (m_X7_voiceFor ((m_X7_checked c 1).2))) 7 (c2 111 18)) (zn (m_X7_voiceFor ((m_X7_checked c 1).2))) 8 (c2 111 19)) (zn (m_X7_voiceFor ((m_X7_checked c 1).2))) 13 (c2 111 21)) 111 21 ((c2 111 21) + 1))))))
set_option maxRecDepth 100000 in
set_option maxHeartbeats 400000 in
theorem k_X7_begin (l : Launch) (E : zE) (b : Nat) (c : Nat → Nat → Int32) (w : Nat → Int64) (en : Nat → Nat) (ea : Nat → Nat → Int32) (x y : Int32) (hg : zG c) : zM l yX7_begin (.code yX7_begin cX7_begin 5 (some .int) :: zAll) (zRm 4 0 0) E b [.ref (b + 111), .int x, .int y] (zH E b c w en ea) (fun v9 (_ : Unit) => v9 = some (.int (m_X7_begin c x y).1) ∧ zfr 111 113 111 111 c (m_X7_begin c x y).2 ∧ zG (m_X7_begin c x y).2) (fun _ => zH E b ((m_X7_begin c x y).2) w en ea) 0 0 := by
  refine zM_of "ToneGraphModel" (by decide) rfl rfl (Nat.le_of_ble_eq_true rfl) (L0 := [(0, .ref (b + 111)), (1, .int x), (2, .int y)]) rfl ?_
  intro p e s m args below meth c9 B hr hname
  refine zv_aload_n (pc := 0) B 0 rfl dX7_begin_0 ?_
  refine zv_iload_n (pc := 1) B 1 rfl dX7_begin_1 ?_
  refine zv_iconst (pc := 2) (v := 0) B rfl dX7_begin_2 ?_
  refine zv_bipush (pc := 3) (v := 59) B rfl dX7_begin_3 ?_
  refine zv_callS (pc := 5) (As := [.int x, .int 0, .int 59]) (rest := [.ref (b + 111)]) B (k_X7_in l E b x 0 59) (zcwS 3 0 B wm_X7_94 ws_X7_in wn_X7 wcode_X7_in (by decide +kernel) ⟨(Nat.le_of_ble_eq_true rfl), (Nat.le_of_ble_eq_true rfl)⟩) rfl zid rfl (Nat.le_of_ble_eq_true rfl) dX7_begin_5 ⟨(Nat.le_of_ble_eq_true rfl), (Nat.le_of_ble_eq_true rfl)⟩ (fun v9 u9 hv9 => ?_)
  subst hv9
  refine zv_st (st' := [.int (r_X7_in x 0 59), .ref (b + 111)]) rfl ?_
  refine zv_if_eq (pc := 8) (tgt := 25) B dX7_begin_8 rfl (fun h1 => ?_) (fun h1 => ?_)
  · refine zv_iconst (pc := 25) (v := 0) B rfl dX7_begin_25 ?_
    refine zv_callV (pc := 26) (As := [.int 0]) (rest := []) B (k_X7_checked l E b _ _ _ _  0 hg) (zcwV 1 0 B wm_X7_121 wi_X7_checked wv_X7_checked wn_X7 wcode_X7_checked rfl (by decide +kernel) ⟨(Nat.le_of_ble_eq_true rfl), (Nat.le_of_ble_eq_true rfl)⟩) rfl (zrecv B (zat (by decide) (z111 _ _ _)) cl7) zid rfl (Nat.le_of_ble_eq_true rfl) dX7_begin_26 ⟨(Nat.le_of_ble_eq_true rfl), (Nat.le_of_ble_eq_true rfl)⟩ (fun v9 u9 hv9 => ?_)
    obtain ⟨rfl, hF2002, hg2002⟩ := hv9
    refine zv_st (st' := [.int ((m_X7_checked c 0).1)]) rfl ?_
    refine zv_if_le (pc := 29) (tgt := 34) B dX7_begin_29 rfl (fun h9 => absurd h9 (ck1 _)) (fun _ => ?_)
    refine zv_iconst (pc := 32) (v := 0) B rfl dX7_begin_32 ?_
    have hE4 : (0, (m_X7_checked c 0).2) = m_X7_begin c x y := (by unfold m_X7_begin; rw [if_pos h1])
    exact zv_iret (pc := 33) B (0) hr (fun H hP => ⟨(), ⟨(by rw [(zp2 hE4).1]), (by rw [(zp2 hE4).2]; exact (zfr.call2 zfr.refl hF2002 (by omega))), (by rw [(zp2 hE4).2]; exact hg2002)⟩, (by rw [(zp2 hE4).2]; exact hP)⟩) (Nat.le_of_ble_eq_true rfl) (Nat.le_of_ble_eq_true rfl) dX7_begin_33
  · refine zv_iload_n (pc := 11) B 2 rfl dX7_begin_11 ?_
    refine zv_iconst (pc := 12) (v := 1) B rfl dX7_begin_12 ?_
    refine zv_bipush (pc := 13) (v := 100) B rfl dX7_begin_13 ?_
    refine zv_callS (pc := 15) (As := [.int y, .int 1, .int 100]) (rest := [.ref (b + 111)]) B (k_X7_in l E b y 1 100) (zcwS 3 0 B wm_X7_94 ws_X7_in wn_X7 wcode_X7_in (by decide +kernel) ⟨(Nat.le_of_ble_eq_true rfl), (Nat.le_of_ble_eq_true rfl)⟩) rfl zid rfl (Nat.le_of_ble_eq_true rfl) dX7_begin_15 ⟨(Nat.le_of_ble_eq_true rfl), (Nat.le_of_ble_eq_true rfl)⟩ (fun v9 u9 hv9 => ?_)
    subst hv9
    refine zv_st (st' := [.int (r_X7_in y 1 100), .ref (b + 111)]) rfl ?_
    refine zv_if_eq (pc := 18) (tgt := 25) B dX7_begin_18 rfl (fun h5 => ?_) (fun h5 => ?_)
    · refine zv_iconst (pc := 25) (v := 0) B rfl dX7_begin_25 ?_
      refine zv_callV (pc := 26) (As := [.int 0]) (rest := []) B (k_X7_checked l E b _ _ _ _  0 hg) (zcwV 1 0 B wm_X7_121 wi_X7_checked wv_X7_checked wn_X7 wcode_X7_checked rfl (by decide +kernel) ⟨(Nat.le_of_ble_eq_true rfl), (Nat.le_of_ble_eq_true rfl)⟩) rfl (zrecv B (zat (by decide) (z111 _ _ _)) cl7) zid rfl (Nat.le_of_ble_eq_true rfl) dX7_begin_26 ⟨(Nat.le_of_ble_eq_true rfl), (Nat.le_of_ble_eq_true rfl)⟩ (fun v9 u9 hv9 => ?_)
      obtain ⟨rfl, hF2006, hg2006⟩ := hv9
      refine zv_st (st' := [.int ((m_X7_checked c 0).1)]) rfl ?_
      refine zv_if_le (pc := 29) (tgt := 34) B dX7_begin_29 rfl (fun h9 => absurd h9 (ck1 _)) (fun _ => ?_)
      refine zv_iconst (pc := 32) (v := 0) B rfl dX7_begin_32 ?_
      have hE8 : (0, (m_X7_checked c 0).2) = m_X7_begin c x y := (by unfold m_X7_begin; rw [if_neg h1, if_pos h5])
      exact zv_iret (pc := 33) B (0) hr (fun H hP => ⟨(), ⟨(by rw [(zp2 hE8).1]), (by rw [(zp2 hE8).2]; exact (zfr.call2 zfr.refl hF2006 (by omega))), (by rw [(zp2 hE8).2]; exact hg2006)⟩, (by rw [(zp2 hE8).2]; exact hP)⟩) (Nat.le_of_ble_eq_true rfl) (Nat.le_of_ble_eq_true rfl) dX7_begin_33
    · refine zv_iconst (pc := 21) (v := 1) B rfl dX7_begin_21 ?_
      refine zv_goto (pc := 22) (tgt := 26) B rfl dX7_begin_22 ?_
      refine zv_callV (pc := 26) (As := [.int 1]) (rest := []) B (k_X7_checked l E b _ _ _ _  1 hg) (zcwV 1 0 B wm_X7_121 wi_X7_checked wv_X7_checked wn_X7 wcode_X7_checked rfl (by decide +kernel) ⟨(Nat.le_of_ble_eq_true rfl), (Nat.le_of_ble_eq_true rfl)⟩) rfl (zrecv B (zat (by decide) (z111 _ _ _)) cl7) zid rfl (Nat.le_of_ble_eq_true rfl) dX7_begin_26 ⟨(Nat.le_of_ble_eq_true rfl), (Nat.le_of_ble_eq_true rfl)⟩ (fun v9 u9 hv9 => ?_)
      obtain ⟨rfl, hF2009, hg2009⟩ := hv9
      refine zv_st (st' := [.int ((m_X7_checked c 1).1)]) rfl ?_
      refine zv_if_le (pc := 29) (tgt := 34) B dX7_begin_29 rfl (fun _ => ?_) (fun h9 => absurd (ck0 _) h9)
      refine zv_aload_n (pc := 34) B 0 rfl dX7_begin_34 ?_
      refine zv_callV (pc := 35) (As := []) (rest := []) B (k_X7_voiceFor l E b _ _ _ _ ) (zcwV 0 3 B wm_X7_141 wi_X7_voiceFor wv_X7_voiceFor wn_X7 wcode_X7_voiceFor rfl (by decide +kernel) ⟨(Nat.le_of_ble_eq_true rfl), (Nat.le_of_ble_eq_true rfl)⟩) rfl (zrecv B (zat (by decide) (z111 _ _ _)) cl7) zid rfl (Nat.le_of_ble_eq_true rfl) dX7_begin_35 ⟨(Nat.le_of_ble_eq_true rfl), (Nat.le_of_ble_eq_true rfl)⟩ (fun v9 u9 hv9 => ?_)
      subst hv9
      refine zv_st (st' := [.int (m_X7_voiceFor ((m_X7_checked c 1).2))]) rfl ?_
      have hvf := vf_lt ((m_X7_checked c 1).2)
      refine zv_istore_n (pc := 38) (L' := [(3, .int (m_X7_voiceFor ((m_X7_checked c 1).2))), (0, .ref (b + 111)), (1, .int x), (2, .int y)]) B (by decide) rfl dX7_begin_38 ?_
      refine zv_aload_n (pc := 39) B 1 rfl dX7_begin_39 ?_
      refine zv_dup (pc := 40) B rfl dX7_begin_40 ?_
      refine zv_get (pc := 41) (v := .int (((m_X7_checked c 1).2) 111 20)) B (zat (by decide) (z111 _ _ _)) cl7 inX7 20 (by decide) wf_X7_72 rfl dX7_begin_41 ?_
      refine zv_aload_n (pc := 44) B 1 rfl dX7_begin_44 ?_
      refine zv_iload_n (pc := 45) B 0 rfl dX7_begin_45 ?_
      refine zv_st (st' := [.int (nI (zn (m_X7_voiceFor ((m_X7_checked c 1).2)))), .ref (b + 111), .int (((m_X7_checked c 1).2) 111 20), .ref (b + 111)]) (by rw [← zn_eq (m_X7_voiceFor ((m_X7_checked c 1).2))]) ?_
      refine zv_callV (pc := 46) (As := [.int (nI (zn (m_X7_voiceFor ((m_X7_checked c 1).2))))]) (rest := [.int (((m_X7_checked c 1).2) 111 20), .ref (b + 111)]) B (k_X7_plays l E b _ _ _ _  hvf) (zcwV 1 1 B wm_X7_135 wi_X7_plays wv_X7_plays wn_X7 wcode_X7_plays rfl (by decide +kernel) ⟨(Nat.le_of_ble_eq_true rfl), (Nat.le_of_ble_eq_true rfl)⟩) rfl (zrecv B (zat (by decide) (z111 _ _ _)) cl7) zid rfl (Nat.le_of_ble_eq_true rfl) dX7_begin_46 ⟨(Nat.le_of_ble_eq_true rfl), (Nat.le_of_ble_eq_true rfl)⟩ (fun v9 u9 hv9 => ?_)
      subst hv9
      refine zv_st (st' := [.int (m_X7_plays ((m_X7_checked c 1).2) (zn (m_X7_voiceFor ((m_X7_checked c 1).2)))), .int (((m_X7_checked c 1).2) 111 20), .ref (b + 111)]) rfl ?_
      refine zv_if_eq (pc := 49) (tgt := 56) B dX7_begin_49 rfl (fun h11 => ?_) (fun h11 => ?_)
      · refine zv_iconst (pc := 56) (v := 0) B rfl dX7_begin_56 ?_
        refine zv_iadd (pc := 57) B dX7_begin_57 ?_
        refine zs_put9 (pc := 58) (f := 20) (F := fun x9 => [.ref (b + 112), .ref (b + 113), .ref (b + 114), .ref (b + 115), .ref (b + 116), .ref (b + 117), .ref (b + 118), .ref (b + 119), .ref (b + 120), .ref (b + 121), .ref (b + 122), .ref (b + 123), .int (x9 12), .int (x9 13), .int (x9 14), .int (x9 15), .int (x9 16), .int (x9 17), .int (x9 18), .int (x9 19), .int (x9 20), .int (x9 21), .int (x9 22), .int (x9 23), .int (x9 24), .long (w 111)]) B zid (by decide) rfl (fun x => z111 x _ _) cl7 inX7 tyX7 tyX7_ok nmX7 (by decide) wf_X7_72 rfl rfl rfl rfl (Nat.le_of_ble_eq_true rfl) (fun _ _ => rfl) dX7_begin_58 ?_
        refine zv_iconst (pc := 61) (v := 0) B rfl dX7_begin_61 ?_
        refine zv_istore (pc := 62) (L' := [(4, .int 0), (3, .int (m_X7_voiceFor ((m_X7_checked c 1).2))), (0, .ref (b + 111)), (1, .int x), (2, .int y)]) B (by decide) rfl dX7_begin_62 ?_
        have loop1 : ∀ (K : Nat → (Nat → Nat → Int32) → Int32 × (Nat → Nat → Int32)) (n : Nat) (k : Nat) (c1 : Nat → Nat → Int32), zfr 111 113 111 111 c c1 → zG c1 → k + n = 16 → g1_X7_begin c x y n k c1 K = m_X7_begin c x y → (∀ (k : Nat) (c1 : Nat → Nat → Int32), zfr 111 113 111 111 c c1 → zG c1 → k ≤ 16 → K k c1 = m_X7_begin c x y → zV p l e (zRm 4 0 0) s m args below meth c9 (MQ below (zQ b (fun v9 (_ : Unit) => v9 = some (.int (m_X7_begin c x y).1) ∧ zfr 111 113 111 111 c (m_X7_begin c x y).2 ∧ zG (m_X7_begin c x y).2) (fun _ => zH E b ((m_X7_begin c x y).2) w en ea)) args s 0 0 (zA b)) 5 b (zH E b c1 w en ea) 85 [(0, .ref (b + 111)), (1, .int x), (2, .int y), (3, .int (m_X7_voiceFor ((m_X7_checked c 1).2))), (4, .int (nI k))] [] 0 0) → zV p l e (zRm 4 0 0) s m args below meth c9 (MQ below (zQ b (fun v9 (_ : Unit) => v9 = some (.int (m_X7_begin c x y).1) ∧ zfr 111 113 111 111 c (m_X7_begin c x y).2 ∧ zG (m_X7_begin c x y).2) (fun _ => zH E b ((m_X7_begin c x y).2) w en ea)) args s 0 0 (zA b)) 5 b (zH E b c1 w en ea) 64 [(0, .ref (b + 111)), (1, .int x), (2, .int y), (3, .int (m_X7_voiceFor ((m_X7_checked c 1).2))), (4, .int (nI k))] [] 0 0 := by
          intro K n
          induction n with
          | zero =>
            intro k c1 hF1 hg1 hi hE901 hK
            refine zv_iload (pc := 64) B 4 rfl dX7_begin_64 ?_
            refine zv_bipush (pc := 66) (v := 16) B rfl dX7_begin_66 ?_
            refine zv_icmp_ge (pc := 68) (tgt := 85) B dX7_begin_68 rfl (fun _ => ?_) (fun h9 => absurd ((z_le (a := 16) (b := k) rfl rfl (by omega) (by omega)).mpr (by omega)) h9)
            exact hK k c1 hF1 hg1 (by omega) (Eq.trans (by rw [g1_X7_begin]) hE901)
          | succ n ih =>
            intro k c1 hF1 hg1 hi hE901 hK
            refine zv_iload (pc := 64) B 4 rfl dX7_begin_64 ?_
            refine zv_bipush (pc := 66) (v := 16) B rfl dX7_begin_66 ?_
            refine zv_icmp_ge (pc := 68) (tgt := 85) B dX7_begin_68 rfl (fun h9 => absurd h9 (fun q9 => absurd ((z_le (a := 16) (b := k) rfl rfl (by omega) (by omega)).mp q9) (by omega))) (fun _ => ?_)
            refine zv_aload_n (pc := 71) B 0 rfl dX7_begin_71 ?_
            refine zv_iload_n (pc := 72) B 3 rfl dX7_begin_72 ?_
            refine zv_iload (pc := 73) B 4 rfl dX7_begin_73 ?_
            refine zv_iconst (pc := 75) (v := 0) B rfl dX7_begin_75 ?_
            refine zv_st (st' := [.int 0, .int (nI k), .int (nI (zn (m_X7_voiceFor ((m_X7_checked c 1).2)))), .ref (b + 111)]) (by rw [← zn_eq (m_X7_voiceFor ((m_X7_checked c 1).2))]) ?_
            refine zv_callV (pc := 76) (As := [.int (nI (zn (m_X7_voiceFor ((m_X7_checked c 1).2)))), .int (nI k), .int 0]) (rest := []) B (k_X7_lay l E b _ _ _ _  hvf (by omega) 0 hg1) (zcwV 3 0 B wm_X7_145 wi_X7_lay wv_X7_lay wn_X7 wcode_X7_lay rfl (by decide +kernel) ⟨(Nat.le_of_ble_eq_true rfl), (Nat.le_of_ble_eq_true rfl)⟩) rfl (zrecv B (zat (by decide) (z111 _ _ _)) cl7) zid rfl (Nat.le_of_ble_eq_true rfl) dX7_begin_76 ⟨(Nat.le_of_ble_eq_true rfl), (Nat.le_of_ble_eq_true rfl)⟩ (fun v9 u9 hv9 => ?_)
            obtain ⟨rfl, hF2014, hg2014⟩ := hv9
            refine zv_st (st' := []) rfl ?_
            refine zv_iinc (pc := 79) (v := nI (k + 1)) (L' := [(4, .int (nI (k + 1))), (0, .ref (b + 111)), (1, .int x), (2, .int y), (3, .int (m_X7_voiceFor ((m_X7_checked c 1).2)))]) B 4 rfl (nI_1 _) (by decide) rfl dX7_begin_79 ?_
            refine zv_goto (pc := 82) (tgt := 64) B rfl dX7_begin_82 ?_
            refine zv_loc (L' := [(0, .ref (b + 111)), (1, .int x), (2, .int y), (3, .int (m_X7_voiceFor ((m_X7_checked c 1).2))), (4, .int (nI (k + 1)))]) [1, 2, 3, 4, 0] rfl ?_
            exact ih (k + 1) (m_X7_lay c1 (zn (m_X7_voiceFor ((m_X7_checked c 1).2))) k 0) (zfr.call2 hF1 hF2014 (by omega)) hg2014 (by omega) (Eq.trans (by rw [g1_X7_begin]) hE901) hK
        refine zv_loc (L' := [(0, .ref (b + 111)), (1, .int x), (2, .int y), (3, .int (m_X7_voiceFor ((m_X7_checked c 1).2))), (4, .int 0)]) [2, 3, 4, 1, 0] rfl ?_
        refine loop1 (fun k c1 => ((m_X7_voiceFor ((m_X7_checked c 1).2)), zup (m_X7_lay (m_X7_lay (m_X7_lay (m_X7_lay (m_X7_lay (m_X7_lay (m_X7_lay (m_X7_lay (m_X7_lay c1 (zn (m_X7_voiceFor ((m_X7_checked c 1).2))) 0 1) (zn (m_X7_voiceFor ((m_X7_checked c 1).2))) 2 x) (zn (m_X7_voiceFor ((m_X7_checked c 1).2))) 3 y) (zn (m_X7_voiceFor ((m_X7_checked c 1).2))) 4 (c1 111 15)) (zn (m_X7_voiceFor ((m_X7_checked c 1).2))) 5 (c1 111 16)) (zn (m_X7_voiceFor ((m_X7_checked c 1).2))) 6 (c1 111 17)) (zn (m_X7_voiceFor ((m_X7_checked c 1).2))) 7 (c1 111 18)) (zn (m_X7_voiceFor ((m_X7_checked c 1).2))) 8 (c1 111 19)) (zn (m_X7_voiceFor ((m_X7_checked c 1).2))) 13 (c1 111 21)) 111 21 ((c1 111 21) + 1))) 16 0 (zup ((m_X7_checked c 1).2) 111 20 ((((m_X7_checked c 1).2) 111 20) + 0)) (zfr.up (zfr.call2 zfr.refl hF2009 (by omega)) (by omega)) (zG.up hg2009 (show zn _ ≤ zT9 from zn_T _)) (by omega) (by unfold m_X7_begin; rw [if_neg h1, if_neg h5, if_pos h11]) ?_
        intro k c1 hF1 hg1 hx
        intro (hE951 : ((m_X7_voiceFor ((m_X7_checked c 1).2)), zup (m_X7_lay (m_X7_lay (m_X7_lay (m_X7_lay (m_X7_lay (m_X7_lay (m_X7_lay (m_X7_lay (m_X7_lay c1 (zn (m_X7_voiceFor ((m_X7_checked c 1).2))) 0 1) (zn (m_X7_voiceFor ((m_X7_checked c 1).2))) 2 x) (zn (m_X7_voiceFor ((m_X7_checked c 1).2))) 3 y) (zn (m_X7_voiceFor ((m_X7_checked c 1).2))) 4 (c1 111 15)) (zn (m_X7_voiceFor ((m_X7_checked c 1).2))) 5 (c1 111 16)) (zn (m_X7_voiceFor ((m_X7_checked c 1).2))) 6 (c1 111 17)) (zn (m_X7_voiceFor ((m_X7_checked c 1).2))) 7 (c1 111 18)) (zn (m_X7_voiceFor ((m_X7_checked c 1).2))) 8 (c1 111 19)) (zn (m_X7_voiceFor ((m_X7_checked c 1).2))) 13 (c1 111 21)) 111 21 ((c1 111 21) + 1)) = m_X7_begin c x y)
        refine zv_aload_n (pc := 85) B 0 rfl dX7_begin_85 ?_
        refine zv_iload_n (pc := 86) B 3 rfl dX7_begin_86 ?_
        refine zv_iconst (pc := 87) (v := 0) B rfl dX7_begin_87 ?_
        refine zv_iconst (pc := 88) (v := 1) B rfl dX7_begin_88 ?_
        refine zv_st (st' := [.int 1, .int (nI 0), .int (nI (zn (m_X7_voiceFor ((m_X7_checked c 1).2)))), .ref (b + 111)]) (by rw [← zn_eq (m_X7_voiceFor ((m_X7_checked c 1).2))]; rfl) ?_
        refine zv_callV (pc := 89) (As := [.int (nI (zn (m_X7_voiceFor ((m_X7_checked c 1).2)))), .int (nI 0), .int 1]) (rest := []) B (k_X7_lay (k := 0) l E b _ _ _ _  hvf (by decide) 1 hg1) (zcwV 3 0 B wm_X7_145 wi_X7_lay wv_X7_lay wn_X7 wcode_X7_lay rfl (by decide +kernel) ⟨(Nat.le_of_ble_eq_true rfl), (Nat.le_of_ble_eq_true rfl)⟩) rfl (zrecv B (zat (by decide) (z111 _ _ _)) cl7) zid rfl (Nat.le_of_ble_eq_true rfl) dX7_begin_89 ⟨(Nat.le_of_ble_eq_true rfl), (Nat.le_of_ble_eq_true rfl)⟩ (fun v9 u9 hv9 => ?_)
        obtain ⟨rfl, hF2015, hg2015⟩ := hv9
        refine zv_st (st' := []) rfl ?_
        refine zv_aload_n (pc := 92) B 0 rfl dX7_begin_92 ?_
        refine zv_iload_n (pc := 93) B 3 rfl dX7_begin_93 ?_
        refine zv_iconst (pc := 94) (v := 2) B rfl dX7_begin_94 ?_
        refine zv_iload_n (pc := 95) B 1 rfl dX7_begin_95 ?_
        refine zv_st (st' := [.int x, .int (nI 2), .int (nI (zn (m_X7_voiceFor ((m_X7_checked c 1).2)))), .ref (b + 111)]) (by rw [← zn_eq (m_X7_voiceFor ((m_X7_checked c 1).2))]; rfl) ?_
        refine zv_callV (pc := 96) (As := [.int (nI (zn (m_X7_voiceFor ((m_X7_checked c 1).2)))), .int (nI 2), .int x]) (rest := []) B (k_X7_lay (k := 2) l E b _ _ _ _  hvf (by decide) x hg2015) (zcwV 3 0 B wm_X7_145 wi_X7_lay wv_X7_lay wn_X7 wcode_X7_lay rfl (by decide +kernel) ⟨(Nat.le_of_ble_eq_true rfl), (Nat.le_of_ble_eq_true rfl)⟩) rfl (zrecv B (zat (by decide) (z111 _ _ _)) cl7) zid rfl (Nat.le_of_ble_eq_true rfl) dX7_begin_96 ⟨(Nat.le_of_ble_eq_true rfl), (Nat.le_of_ble_eq_true rfl)⟩ (fun v9 u9 hv9 => ?_)
        obtain ⟨rfl, hF2016, hg2016⟩ := hv9
        refine zv_st (st' := []) rfl ?_
        refine zv_aload_n (pc := 99) B 0 rfl dX7_begin_99 ?_
        refine zv_iload_n (pc := 100) B 3 rfl dX7_begin_100 ?_
        refine zv_iconst (pc := 101) (v := 3) B rfl dX7_begin_101 ?_
        refine zv_iload_n (pc := 102) B 2 rfl dX7_begin_102 ?_
        refine zv_st (st' := [.int y, .int (nI 3), .int (nI (zn (m_X7_voiceFor ((m_X7_checked c 1).2)))), .ref (b + 111)]) (by rw [← zn_eq (m_X7_voiceFor ((m_X7_checked c 1).2))]; rfl) ?_
        refine zv_callV (pc := 103) (As := [.int (nI (zn (m_X7_voiceFor ((m_X7_checked c 1).2)))), .int (nI 3), .int y]) (rest := []) B (k_X7_lay (k := 3) l E b _ _ _ _  hvf (by decide) y hg2016) (zcwV 3 0 B wm_X7_145 wi_X7_lay wv_X7_lay wn_X7 wcode_X7_lay rfl (by decide +kernel) ⟨(Nat.le_of_ble_eq_true rfl), (Nat.le_of_ble_eq_true rfl)⟩) rfl (zrecv B (zat (by decide) (z111 _ _ _)) cl7) zid rfl (Nat.le_of_ble_eq_true rfl) dX7_begin_103 ⟨(Nat.le_of_ble_eq_true rfl), (Nat.le_of_ble_eq_true rfl)⟩ (fun v9 u9 hv9 => ?_)
        obtain ⟨rfl, hF2017, hg2017⟩ := hv9
        refine zv_st (st' := []) rfl ?_
        refine zv_aload_n (pc := 106) B 0 rfl dX7_begin_106 ?_
        refine zv_iload_n (pc := 107) B 3 rfl dX7_begin_107 ?_
        refine zv_iconst (pc := 108) (v := 4) B rfl dX7_begin_108 ?_
        refine zv_aload_n (pc := 109) B 0 rfl dX7_begin_109 ?_
        refine zv_get (pc := 110) (v := .int ((m_X7_lay (m_X7_lay (m_X7_lay c1 (zn (m_X7_voiceFor ((m_X7_checked c 1).2))) 0 1) (zn (m_X7_voiceFor ((m_X7_checked c 1).2))) 2 x) (zn (m_X7_voiceFor ((m_X7_checked c 1).2))) 3 y) 111 15)) B (zat (by decide) (z111 _ _ _)) cl7 inX7 15 (by decide) wf_X7_57 rfl dX7_begin_110 ?_
        refine zv_topi (y := c1 111 15) (by rw [hF2017 111 (by omega), hF2016 111 (by omega), hF2015 111 (by omega)]) ?_
        refine zv_st (st' := [.int (c1 111 15), .int (nI 4), .int (nI (zn (m_X7_voiceFor ((m_X7_checked c 1).2)))), .ref (b + 111)]) (by rw [← zn_eq (m_X7_voiceFor ((m_X7_checked c 1).2))]; rfl) ?_
        refine zv_callV (pc := 113) (As := [.int (nI (zn (m_X7_voiceFor ((m_X7_checked c 1).2)))), .int (nI 4), .int (c1 111 15)]) (rest := []) B (k_X7_lay (k := 4) l E b _ _ _ _  hvf (by decide) (c1 111 15) hg2017) (zcwV 3 0 B wm_X7_145 wi_X7_lay wv_X7_lay wn_X7 wcode_X7_lay rfl (by decide +kernel) ⟨(Nat.le_of_ble_eq_true rfl), (Nat.le_of_ble_eq_true rfl)⟩) rfl (zrecv B (zat (by decide) (z111 _ _ _)) cl7) zid rfl (Nat.le_of_ble_eq_true rfl) dX7_begin_113 ⟨(Nat.le_of_ble_eq_true rfl), (Nat.le_of_ble_eq_true rfl)⟩ (fun v9 u9 hv9 => ?_)
        obtain ⟨rfl, hF2018, hg2018⟩ := hv9
        refine zv_st (st' := []) rfl ?_
        refine zv_aload_n (pc := 116) B 0 rfl dX7_begin_116 ?_
        refine zv_iload_n (pc := 117) B 3 rfl dX7_begin_117 ?_
        refine zv_iconst (pc := 118) (v := 5) B rfl dX7_begin_118 ?_
        refine zv_aload_n (pc := 119) B 0 rfl dX7_begin_119 ?_
        refine zv_get (pc := 120) (v := .int ((m_X7_lay (m_X7_lay (m_X7_lay (m_X7_lay c1 (zn (m_X7_voiceFor ((m_X7_checked c 1).2))) 0 1) (zn (m_X7_voiceFor ((m_X7_checked c 1).2))) 2 x) (zn (m_X7_voiceFor ((m_X7_checked c 1).2))) 3 y) (zn (m_X7_voiceFor ((m_X7_checked c 1).2))) 4 (c1 111 15)) 111 16)) B (zat (by decide) (z111 _ _ _)) cl7 inX7 16 (by decide) wf_X7_60 rfl dX7_begin_120 ?_
        refine zv_topi (y := c1 111 16) (by rw [hF2018 111 (by omega), hF2017 111 (by omega), hF2016 111 (by omega), hF2015 111 (by omega)]) ?_
        refine zv_st (st' := [.int (c1 111 16), .int (nI 5), .int (nI (zn (m_X7_voiceFor ((m_X7_checked c 1).2)))), .ref (b + 111)]) (by rw [← zn_eq (m_X7_voiceFor ((m_X7_checked c 1).2))]; rfl) ?_
        refine zv_callV (pc := 123) (As := [.int (nI (zn (m_X7_voiceFor ((m_X7_checked c 1).2)))), .int (nI 5), .int (c1 111 16)]) (rest := []) B (k_X7_lay (k := 5) l E b _ _ _ _  hvf (by decide) (c1 111 16) hg2018) (zcwV 3 0 B wm_X7_145 wi_X7_lay wv_X7_lay wn_X7 wcode_X7_lay rfl (by decide +kernel) ⟨(Nat.le_of_ble_eq_true rfl), (Nat.le_of_ble_eq_true rfl)⟩) rfl (zrecv B (zat (by decide) (z111 _ _ _)) cl7) zid rfl (Nat.le_of_ble_eq_true rfl) dX7_begin_123 ⟨(Nat.le_of_ble_eq_true rfl), (Nat.le_of_ble_eq_true rfl)⟩ (fun v9 u9 hv9 => ?_)
        obtain ⟨rfl, hF2019, hg2019⟩ := hv9
        refine zv_st (st' := []) rfl ?_
        refine zv_aload_n (pc := 126) B 0 rfl dX7_begin_126 ?_
        refine zv_iload_n (pc := 127) B 3 rfl dX7_begin_127 ?_
        refine zv_bipush (pc := 128) (v := 6) B rfl dX7_begin_128 ?_
        refine zv_aload_n (pc := 130) B 0 rfl dX7_begin_130 ?_
        refine zv_get (pc := 131) (v := .int ((m_X7_lay (m_X7_lay (m_X7_lay (m_X7_lay (m_X7_lay c1 (zn (m_X7_voiceFor ((m_X7_checked c 1).2))) 0 1) (zn (m_X7_voiceFor ((m_X7_checked c 1).2))) 2 x) (zn (m_X7_voiceFor ((m_X7_checked c 1).2))) 3 y) (zn (m_X7_voiceFor ((m_X7_checked c 1).2))) 4 (c1 111 15)) (zn (m_X7_voiceFor ((m_X7_checked c 1).2))) 5 (c1 111 16)) 111 17)) B (zat (by decide) (z111 _ _ _)) cl7 inX7 17 (by decide) wf_X7_63 rfl dX7_begin_131 ?_
        refine zv_topi (y := c1 111 17) (by rw [hF2019 111 (by omega), hF2018 111 (by omega), hF2017 111 (by omega), hF2016 111 (by omega), hF2015 111 (by omega)]) ?_
        refine zv_st (st' := [.int (c1 111 17), .int (nI 6), .int (nI (zn (m_X7_voiceFor ((m_X7_checked c 1).2)))), .ref (b + 111)]) (by rw [← zn_eq (m_X7_voiceFor ((m_X7_checked c 1).2))]; rfl) ?_
        refine zv_callV (pc := 134) (As := [.int (nI (zn (m_X7_voiceFor ((m_X7_checked c 1).2)))), .int (nI 6), .int (c1 111 17)]) (rest := []) B (k_X7_lay (k := 6) l E b _ _ _ _  hvf (by decide) (c1 111 17) hg2019) (zcwV 3 0 B wm_X7_145 wi_X7_lay wv_X7_lay wn_X7 wcode_X7_lay rfl (by decide +kernel) ⟨(Nat.le_of_ble_eq_true rfl), (Nat.le_of_ble_eq_true rfl)⟩) rfl (zrecv B (zat (by decide) (z111 _ _ _)) cl7) zid rfl (Nat.le_of_ble_eq_true rfl) dX7_begin_134 ⟨(Nat.le_of_ble_eq_true rfl), (Nat.le_of_ble_eq_true rfl)⟩ (fun v9 u9 hv9 => ?_)
        obtain ⟨rfl, hF2020, hg2020⟩ := hv9
        refine zv_st (st' := []) rfl ?_
        refine zv_aload_n (pc := 137) B 0 rfl dX7_begin_137 ?_
        refine zv_iload_n (pc := 138) B 3 rfl dX7_begin_138 ?_
        refine zv_bipush (pc := 139) (v := 7) B rfl dX7_begin_139 ?_
        refine zv_aload_n (pc := 141) B 0 rfl dX7_begin_141 ?_
        refine zv_get (pc := 142) (v := .int ((m_X7_lay (m_X7_lay (m_X7_lay (m_X7_lay (m_X7_lay (m_X7_lay c1 (zn (m_X7_voiceFor ((m_X7_checked c 1).2))) 0 1) (zn (m_X7_voiceFor ((m_X7_checked c 1).2))) 2 x) (zn (m_X7_voiceFor ((m_X7_checked c 1).2))) 3 y) (zn (m_X7_voiceFor ((m_X7_checked c 1).2))) 4 (c1 111 15)) (zn (m_X7_voiceFor ((m_X7_checked c 1).2))) 5 (c1 111 16)) (zn (m_X7_voiceFor ((m_X7_checked c 1).2))) 6 (c1 111 17)) 111 18)) B (zat (by decide) (z111 _ _ _)) cl7 inX7 18 (by decide) wf_X7_66 rfl dX7_begin_142 ?_
        refine zv_topi (y := c1 111 18) (by rw [hF2020 111 (by omega), hF2019 111 (by omega), hF2018 111 (by omega), hF2017 111 (by omega), hF2016 111 (by omega), hF2015 111 (by omega)]) ?_
        refine zv_st (st' := [.int (c1 111 18), .int (nI 7), .int (nI (zn (m_X7_voiceFor ((m_X7_checked c 1).2)))), .ref (b + 111)]) (by rw [← zn_eq (m_X7_voiceFor ((m_X7_checked c 1).2))]; rfl) ?_
        refine zv_callV (pc := 145) (As := [.int (nI (zn (m_X7_voiceFor ((m_X7_checked c 1).2)))), .int (nI 7), .int (c1 111 18)]) (rest := []) B (k_X7_lay (k := 7) l E b _ _ _ _  hvf (by decide) (c1 111 18) hg2020) (zcwV 3 0 B wm_X7_145 wi_X7_lay wv_X7_lay wn_X7 wcode_X7_lay rfl (by decide +kernel) ⟨(Nat.le_of_ble_eq_true rfl), (Nat.le_of_ble_eq_true rfl)⟩) rfl (zrecv B (zat (by decide) (z111 _ _ _)) cl7) zid rfl (Nat.le_of_ble_eq_true rfl) dX7_begin_145 ⟨(Nat.le_of_ble_eq_true rfl), (Nat.le_of_ble_eq_true rfl)⟩ (fun v9 u9 hv9 => ?_)
        obtain ⟨rfl, hF2021, hg2021⟩ := hv9
        refine zv_st (st' := []) rfl ?_
        refine zv_aload_n (pc := 148) B 0 rfl dX7_begin_148 ?_
        refine zv_iload_n (pc := 149) B 3 rfl dX7_begin_149 ?_
        refine zv_bipush (pc := 150) (v := 8) B rfl dX7_begin_150 ?_
        refine zv_aload_n (pc := 152) B 0 rfl dX7_begin_152 ?_
        refine zv_get (pc := 153) (v := .int ((m_X7_lay (m_X7_lay (m_X7_lay (m_X7_lay (m_X7_lay (m_X7_lay (m_X7_lay c1 (zn (m_X7_voiceFor ((m_X7_checked c 1).2))) 0 1) (zn (m_X7_voiceFor ((m_X7_checked c 1).2))) 2 x) (zn (m_X7_voiceFor ((m_X7_checked c 1).2))) 3 y) (zn (m_X7_voiceFor ((m_X7_checked c 1).2))) 4 (c1 111 15)) (zn (m_X7_voiceFor ((m_X7_checked c 1).2))) 5 (c1 111 16)) (zn (m_X7_voiceFor ((m_X7_checked c 1).2))) 6 (c1 111 17)) (zn (m_X7_voiceFor ((m_X7_checked c 1).2))) 7 (c1 111 18)) 111 19)) B (zat (by decide) (z111 _ _ _)) cl7 inX7 19 (by decide) wf_X7_69 rfl dX7_begin_153 ?_
        refine zv_topi (y := c1 111 19) (by rw [hF2021 111 (by omega), hF2020 111 (by omega), hF2019 111 (by omega), hF2018 111 (by omega), hF2017 111 (by omega), hF2016 111 (by omega), hF2015 111 (by omega)]) ?_
        refine zv_st (st' := [.int (c1 111 19), .int (nI 8), .int (nI (zn (m_X7_voiceFor ((m_X7_checked c 1).2)))), .ref (b + 111)]) (by rw [← zn_eq (m_X7_voiceFor ((m_X7_checked c 1).2))]; rfl) ?_
        refine zv_callV (pc := 156) (As := [.int (nI (zn (m_X7_voiceFor ((m_X7_checked c 1).2)))), .int (nI 8), .int (c1 111 19)]) (rest := []) B (k_X7_lay (k := 8) l E b _ _ _ _  hvf (by decide) (c1 111 19) hg2021) (zcwV 3 0 B wm_X7_145 wi_X7_lay wv_X7_lay wn_X7 wcode_X7_lay rfl (by decide +kernel) ⟨(Nat.le_of_ble_eq_true rfl), (Nat.le_of_ble_eq_true rfl)⟩) rfl (zrecv B (zat (by decide) (z111 _ _ _)) cl7) zid rfl (Nat.le_of_ble_eq_true rfl) dX7_begin_156 ⟨(Nat.le_of_ble_eq_true rfl), (Nat.le_of_ble_eq_true rfl)⟩ (fun v9 u9 hv9 => ?_)
        obtain ⟨rfl, hF2022, hg2022⟩ := hv9
        refine zv_st (st' := []) rfl ?_
        refine zv_aload_n (pc := 159) B 0 rfl dX7_begin_159 ?_
        refine zv_iload_n (pc := 160) B 3 rfl dX7_begin_160 ?_
        refine zv_bipush (pc := 161) (v := 13) B rfl dX7_begin_161 ?_
        refine zv_aload_n (pc := 163) B 0 rfl dX7_begin_163 ?_
        refine zv_get (pc := 164) (v := .int ((m_X7_lay (m_X7_lay (m_X7_lay (m_X7_lay (m_X7_lay (m_X7_lay (m_X7_lay (m_X7_lay c1 (zn (m_X7_voiceFor ((m_X7_checked c 1).2))) 0 1) (zn (m_X7_voiceFor ((m_X7_checked c 1).2))) 2 x) (zn (m_X7_voiceFor ((m_X7_checked c 1).2))) 3 y) (zn (m_X7_voiceFor ((m_X7_checked c 1).2))) 4 (c1 111 15)) (zn (m_X7_voiceFor ((m_X7_checked c 1).2))) 5 (c1 111 16)) (zn (m_X7_voiceFor ((m_X7_checked c 1).2))) 6 (c1 111 17)) (zn (m_X7_voiceFor ((m_X7_checked c 1).2))) 7 (c1 111 18)) (zn (m_X7_voiceFor ((m_X7_checked c 1).2))) 8 (c1 111 19)) 111 21)) B (zat (by decide) (z111 _ _ _)) cl7 inX7 21 (by decide) wf_X7_75 rfl dX7_begin_164 ?_
        refine zv_topi (y := c1 111 21) (by rw [hF2022 111 (by omega), hF2021 111 (by omega), hF2020 111 (by omega), hF2019 111 (by omega), hF2018 111 (by omega), hF2017 111 (by omega), hF2016 111 (by omega), hF2015 111 (by omega)]) ?_
        refine zv_st (st' := [.int (c1 111 21), .int (nI 13), .int (nI (zn (m_X7_voiceFor ((m_X7_checked c 1).2)))), .ref (b + 111)]) (by rw [← zn_eq (m_X7_voiceFor ((m_X7_checked c 1).2))]; rfl) ?_
        refine zv_callV (pc := 167) (As := [.int (nI (zn (m_X7_voiceFor ((m_X7_checked c 1).2)))), .int (nI 13), .int (c1 111 21)]) (rest := []) B (k_X7_lay (k := 13) l E b _ _ _ _  hvf (by decide) (c1 111 21) hg2022) (zcwV 3 0 B wm_X7_145 wi_X7_lay wv_X7_lay wn_X7 wcode_X7_lay rfl (by decide +kernel) ⟨(Nat.le_of_ble_eq_true rfl), (Nat.le_of_ble_eq_true rfl)⟩) rfl (zrecv B (zat (by decide) (z111 _ _ _)) cl7) zid rfl (Nat.le_of_ble_eq_true rfl) dX7_begin_167 ⟨(Nat.le_of_ble_eq_true rfl), (Nat.le_of_ble_eq_true rfl)⟩ (fun v9 u9 hv9 => ?_)
        obtain ⟨rfl, hF2023, hg2023⟩ := hv9
        refine zv_st (st' := []) rfl ?_
        refine zv_aload_n (pc := 170) B 0 rfl dX7_begin_170 ?_
        refine zv_dup (pc := 171) B rfl dX7_begin_171 ?_
        refine zv_get (pc := 172) (v := .int ((m_X7_lay (m_X7_lay (m_X7_lay (m_X7_lay (m_X7_lay (m_X7_lay (m_X7_lay (m_X7_lay (m_X7_lay c1 (zn (m_X7_voiceFor ((m_X7_checked c 1).2))) 0 1) (zn (m_X7_voiceFor ((m_X7_checked c 1).2))) 2 x) (zn (m_X7_voiceFor ((m_X7_checked c 1).2))) 3 y) (zn (m_X7_voiceFor ((m_X7_checked c 1).2))) 4 (c1 111 15)) (zn (m_X7_voiceFor ((m_X7_checked c 1).2))) 5 (c1 111 16)) (zn (m_X7_voiceFor ((m_X7_checked c 1).2))) 6 (c1 111 17)) (zn (m_X7_voiceFor ((m_X7_checked c 1).2))) 7 (c1 111 18)) (zn (m_X7_voiceFor ((m_X7_checked c 1).2))) 8 (c1 111 19)) (zn (m_X7_voiceFor ((m_X7_checked c 1).2))) 13 (c1 111 21)) 111 21)) B (zat (by decide) (z111 _ _ _)) cl7 inX7 21 (by decide) wf_X7_75 rfl dX7_begin_172 ?_
        refine zv_topi (y := c1 111 21) (by rw [hF2023 111 (by omega), hF2022 111 (by omega), hF2021 111 (by omega), hF2020 111 (by omega), hF2019 111 (by omega), hF2018 111 (by omega), hF2017 111 (by omega), hF2016 111 (by omega), hF2015 111 (by omega)]) ?_
        refine zv_iconst (pc := 175) (v := 1) B rfl dX7_begin_175 ?_
        refine zv_iadd (pc := 176) B dX7_begin_176 ?_
        refine zs_put9 (pc := 177) (f := 21) (F := fun x9 => [.ref (b + 112), .ref (b + 113), .ref (b + 114), .ref (b + 115), .ref (b + 116), .ref (b + 117), .ref (b + 118), .ref (b + 119), .ref (b + 120), .ref (b + 121), .ref (b + 122), .ref (b + 123), .int (x9 12), .int (x9 13), .int (x9 14), .int (x9 15), .int (x9 16), .int (x9 17), .int (x9 18), .int (x9 19), .int (x9 20), .int (x9 21), .int (x9 22), .int (x9 23), .int (x9 24), .long (w 111)]) B zid (by decide) rfl (fun x => z111 x _ _) cl7 inX7 tyX7 tyX7_ok nmX7 (by decide) wf_X7_75 rfl rfl rfl rfl (Nat.le_of_ble_eq_true rfl) (fun _ _ => rfl) dX7_begin_177 ?_
        refine zv_iload_n (pc := 180) B 3 rfl dX7_begin_180 ?_
        have hE24 : ((m_X7_voiceFor ((m_X7_checked c 1).2)), zup (m_X7_lay (m_X7_lay (m_X7_lay (m_X7_lay (m_X7_lay (m_X7_lay (m_X7_lay (m_X7_lay (m_X7_lay c1 (zn (m_X7_voiceFor ((m_X7_checked c 1).2))) 0 1) (zn (m_X7_voiceFor ((m_X7_checked c 1).2))) 2 x) (zn (m_X7_voiceFor ((m_X7_checked c 1).2))) 3 y) (zn (m_X7_voiceFor ((m_X7_checked c 1).2))) 4 (c1 111 15)) (zn (m_X7_voiceFor ((m_X7_checked c 1).2))) 5 (c1 111 16)) (zn (m_X7_voiceFor ((m_X7_checked c 1).2))) 6 (c1 111 17)) (zn (m_X7_voiceFor ((m_X7_checked c 1).2))) 7 (c1 111 18)) (zn (m_X7_voiceFor ((m_X7_checked c 1).2))) 8 (c1 111 19)) (zn (m_X7_voiceFor ((m_X7_checked c 1).2))) 13 (c1 111 21)) 111 21 ((c1 111 21) + 1)) = m_X7_begin c x y := hE951
        exact zv_iret (pc := 181) B ((m_X7_voiceFor ((m_X7_checked c 1).2))) hr (fun H hP => ⟨(), ⟨(by rw [(zp2 hE24).1]), (by rw [(zp2 hE24).2]; exact (zfr.up (zfr.call2 (zfr.call2 (zfr.call2 (zfr.call2 (zfr.call2 (zfr.call2 (zfr.call2 (zfr.call2 (zfr.call2 hF1 hF2015 (by omega)) hF2016 (by omega)) hF2017 (by omega)) hF2018 (by omega)) hF2019 (by omega)) hF2020 (by omega)) hF2021 (by omega)) hF2022 (by omega)) hF2023 (by omega)) (by omega))), (by rw [(zp2 hE24).2]; exact (zG.up hg2023 (show zn _ ≤ zT9 from zn_T _)))⟩, (by rw [(zp2 hE24).2]; exact hP)⟩) (Nat.le_of_ble_eq_true rfl) (Nat.le_of_ble_eq_true rfl) dX7_begin_181
      · refine zv_iconst (pc := 52) (v := 1) B rfl dX7_begin_52 ?_
        refine zv_goto (pc := 53) (tgt := 57) B rfl dX7_begin_53 ?_
        refine zv_iadd (pc := 57) B dX7_begin_57 ?_
        refine zs_put9 (pc := 58) (f := 20) (F := fun x9 => [.ref (b + 112), .ref (b + 113), .ref (b + 114), .ref (b + 115), .ref (b + 116), .ref (b + 117), .ref (b + 118), .ref (b + 119), .ref (b + 120), .ref (b + 121), .ref (b + 122), .ref (b + 123), .int (x9 12), .int (x9 13), .int (x9 14), .int (x9 15), .int (x9 16), .int (x9 17), .int (x9 18), .int (x9 19), .int (x9 20), .int (x9 21), .int (x9 22), .int (x9 23), .int (x9 24), .long (w 111)]) B zid (by decide) rfl (fun x => z111 x _ _) cl7 inX7 tyX7 tyX7_ok nmX7 (by decide) wf_X7_72 rfl rfl rfl rfl (Nat.le_of_ble_eq_true rfl) (fun _ _ => rfl) dX7_begin_58 ?_
        refine zv_iconst (pc := 61) (v := 0) B rfl dX7_begin_61 ?_
        refine zv_istore (pc := 62) (L' := [(4, .int 0), (3, .int (m_X7_voiceFor ((m_X7_checked c 1).2))), (0, .ref (b + 111)), (1, .int x), (2, .int y)]) B (by decide) rfl dX7_begin_62 ?_
        have loop2 : ∀ (K : Nat → (Nat → Nat → Int32) → Int32 × (Nat → Nat → Int32)) (n : Nat) (k : Nat) (c2 : Nat → Nat → Int32), zfr 111 113 111 111 c c2 → zG c2 → k + n = 16 → g2_X7_begin c x y n k c2 K = m_X7_begin c x y → (∀ (k : Nat) (c2 : Nat → Nat → Int32), zfr 111 113 111 111 c c2 → zG c2 → k ≤ 16 → K k c2 = m_X7_begin c x y → zV p l e (zRm 4 0 0) s m args below meth c9 (MQ below (zQ b (fun v9 (_ : Unit) => v9 = some (.int (m_X7_begin c x y).1) ∧ zfr 111 113 111 111 c (m_X7_begin c x y).2 ∧ zG (m_X7_begin c x y).2) (fun _ => zH E b ((m_X7_begin c x y).2) w en ea)) args s 0 0 (zA b)) 5 b (zH E b c2 w en ea) 85 [(0, .ref (b + 111)), (1, .int x), (2, .int y), (3, .int (m_X7_voiceFor ((m_X7_checked c 1).2))), (4, .int (nI k))] [] 0 0) → zV p l e (zRm 4 0 0) s m args below meth c9 (MQ below (zQ b (fun v9 (_ : Unit) => v9 = some (.int (m_X7_begin c x y).1) ∧ zfr 111 113 111 111 c (m_X7_begin c x y).2 ∧ zG (m_X7_begin c x y).2) (fun _ => zH E b ((m_X7_begin c x y).2) w en ea)) args s 0 0 (zA b)) 5 b (zH E b c2 w en ea) 64 [(0, .ref (b + 111)), (1, .int x), (2, .int y), (3, .int (m_X7_voiceFor ((m_X7_checked c 1).2))), (4, .int (nI k))] [] 0 0 := by
          intro K n
          induction n with
          | zero =>
            intro k c2 hF2 hg2 hi hE902 hK
            refine zv_iload (pc := 64) B 4 rfl dX7_begin_64 ?_
            refine zv_bipush (pc := 66) (v := 16) B rfl dX7_begin_66 ?_
            refine zv_icmp_ge (pc := 68) (tgt := 85) B dX7_begin_68 rfl (fun _ => ?_) (fun h9 => absurd ((z_le (a := 16) (b := k) rfl rfl (by omega) (by omega)).mpr (by omega)) h9)
            exact hK k c2 hF2 hg2 (by omega) (Eq.trans (by rw [g2_X7_begin]) hE902)
          | succ n ih =>
            intro k c2 hF2 hg2 hi hE902 hK
            refine zv_iload (pc := 64) B 4 rfl dX7_begin_64 ?_
            refine zv_bipush (pc := 66) (v := 16) B rfl dX7_begin_66 ?_
            refine zv_icmp_ge (pc := 68) (tgt := 85) B dX7_begin_68 rfl (fun h9 => absurd h9 (fun q9 => absurd ((z_le (a := 16) (b := k) rfl rfl (by omega) (by omega)).mp q9) (by omega))) (fun _ => ?_)
            refine zv_aload_n (pc := 71) B 0 rfl dX7_begin_71 ?_
            refine zv_iload_n (pc := 72) B 3 rfl dX7_begin_72 ?_
            refine zv_iload (pc := 73) B 4 rfl dX7_begin_73 ?_
            refine zv_iconst (pc := 75) (v := 0) B rfl dX7_begin_75 ?_
            refine zv_st (st' := [.int 0, .int (nI k), .int (nI (zn (m_X7_voiceFor ((m_X7_checked c 1).2)))), .ref (b + 111)]) (by rw [← zn_eq (m_X7_voiceFor ((m_X7_checked c 1).2))]) ?_
            refine zv_callV (pc := 76) (As := [.int (nI (zn (m_X7_voiceFor ((m_X7_checked c 1).2)))), .int (nI k), .int 0]) (rest := []) B (k_X7_lay l E b _ _ _ _  hvf (by omega) 0 hg2) (zcwV 3 0 B wm_X7_145 wi_X7_lay wv_X7_lay wn_X7 wcode_X7_lay rfl (by decide +kernel) ⟨(Nat.le_of_ble_eq_true rfl), (Nat.le_of_ble_eq_true rfl)⟩) rfl (zrecv B (zat (by decide) (z111 _ _ _)) cl7) zid rfl (Nat.le_of_ble_eq_true rfl) dX7_begin_76 ⟨(Nat.le_of_ble_eq_true rfl), (Nat.le_of_ble_eq_true rfl)⟩ (fun v9 u9 hv9 => ?_)
            obtain ⟨rfl, hF2027, hg2027⟩ := hv9
            refine zv_st (st' := []) rfl ?_
            refine zv_iinc (pc := 79) (v := nI (k + 1)) (L' := [(4, .int (nI (k + 1))), (0, .ref (b + 111)), (1, .int x), (2, .int y), (3, .int (m_X7_voiceFor ((m_X7_checked c 1).2)))]) B 4 rfl (nI_1 _) (by decide) rfl dX7_begin_79 ?_
            refine zv_goto (pc := 82) (tgt := 64) B rfl dX7_begin_82 ?_
            refine zv_loc (L' := [(0, .ref (b + 111)), (1, .int x), (2, .int y), (3, .int (m_X7_voiceFor ((m_X7_checked c 1).2))), (4, .int (nI (k + 1)))]) [1, 2, 3, 4, 0] rfl ?_
            exact ih (k + 1) (m_X7_lay c2 (zn (m_X7_voiceFor ((m_X7_checked c 1).2))) k 0) (zfr.call2 hF2 hF2027 (by omega)) hg2027 (by omega) (Eq.trans (by rw [g2_X7_begin]) hE902) hK
        refine zv_loc (L' := [(0, .ref (b + 111)), (1, .int x), (2, .int y), (3, .int (m_X7_voiceFor ((m_X7_checked c 1).2))), (4, .int 0)]) [2, 3, 4, 1, 0] rfl ?_
        refine loop2 (fun k c2 => ((m_X7_voiceFor ((m_X7_checked c 1).2)), zup (m_X7_lay (m_X7_lay (m_X7_lay (m_X7_lay (m_X7_lay (m_X7_lay (m_X7_lay (m_X7_lay (m_X7_lay c2 (zn (m_X7_voiceFor ((m_X7_checked c 1).2))) 0 1) (zn (m_X7_voiceFor ((m_X7_checked c 1).2))) 2 x) (zn (m_X7_voiceFor ((m_X7_checked c 1).2))) 3 y) (zn (m_X7_voiceFor ((m_X7_checked c 1).2))) 4 (c2 111 15)) (zn (m_X7_voiceFor ((m_X7_checked c 1).2))) 5 (c2 111 16)) (zn (m_X7_voiceFor ((m_X7_checked c 1).2))) 6 (c2 111 17)) (zn (m_X7_voiceFor ((m_X7_checked c 1).2))) 7 (c2 111 18)) (zn (m_X7_voiceFor ((m_X7_checked c 1).2))) 8 (c2 111 19)) (zn (m_X7_voiceFor ((m_X7_checked c 1).2))) 13 (c2 111 21)) 111 21 ((c2 111 21) + 1))) 16 0 (zup ((m_X7_checked c 1).2) 111 20 ((((m_X7_checked c 1).2) 111 20) + 1)) (zfr.up (zfr.call2 zfr.refl hF2009 (by omega)) (by omega)) (zG.up hg2009 (show zn _ ≤ zT9 from zn_T _)) (by omega) (by unfold m_X7_begin; rw [if_neg h1, if_neg h5, if_neg h11]) ?_
        intro k c2 hF2 hg2 hx
        intro (hE952 : ((m_X7_voiceFor ((m_X7_checked c 1).2)), zup (m_X7_lay (m_X7_lay (m_X7_lay (m_X7_lay (m_X7_lay (m_X7_lay (m_X7_lay (m_X7_lay (m_X7_lay c2 (zn (m_X7_voiceFor ((m_X7_checked c 1).2))) 0 1) (zn (m_X7_voiceFor ((m_X7_checked c 1).2))) 2 x) (zn (m_X7_voiceFor ((m_X7_checked c 1).2))) 3 y) (zn (m_X7_voiceFor ((m_X7_checked c 1).2))) 4 (c2 111 15)) (zn (m_X7_voiceFor ((m_X7_checked c 1).2))) 5 (c2 111 16)) (zn (m_X7_voiceFor ((m_X7_checked c 1).2))) 6 (c2 111 17)) (zn (m_X7_voiceFor ((m_X7_checked c 1).2))) 7 (c2 111 18)) (zn (m_X7_voiceFor ((m_X7_checked c 1).2))) 8 (c2 111 19)) (zn (m_X7_voiceFor ((m_X7_checked c 1).2))) 13 (c2 111 21)) 111 21 ((c2 111 21) + 1)) = m_X7_begin c x y)
        refine zv_aload_n (pc := 85) B 0 rfl dX7_begin_85 ?_
        refine zv_iload_n (pc := 86) B 3 rfl dX7_begin_86 ?_
        refine zv_iconst (pc := 87) (v := 0) B rfl dX7_begin_87 ?_
        refine zv_iconst (pc := 88) (v := 1) B rfl dX7_begin_88 ?_
        refine zv_st (st' := [.int 1, .int (nI 0), .int (nI (zn (m_X7_voiceFor ((m_X7_checked c 1).2)))), .ref (b + 111)]) (by rw [← zn_eq (m_X7_voiceFor ((m_X7_checked c 1).2))]; rfl) ?_
        refine zv_callV (pc := 89) (As := [.int (nI (zn (m_X7_voiceFor ((m_X7_checked c 1).2)))), .int (nI 0), .int 1]) (rest := []) B (k_X7_lay (k := 0) l E b _ _ _ _  hvf (by decide) 1 hg2) (zcwV 3 0 B wm_X7_145 wi_X7_lay wv_X7_lay wn_X7 wcode_X7_lay rfl (by decide +kernel) ⟨(Nat.le_of_ble_eq_true rfl), (Nat.le_of_ble_eq_true rfl)⟩) rfl (zrecv B (zat (by decide) (z111 _ _ _)) cl7) zid rfl (Nat.le_of_ble_eq_true rfl) dX7_begin_89 ⟨(Nat.le_of_ble_eq_true rfl), (Nat.le_of_ble_eq_true rfl)⟩ (fun v9 u9 hv9 => ?_)
        obtain ⟨rfl, hF2028, hg2028⟩ := hv9
        refine zv_st (st' := []) rfl ?_
        refine zv_aload_n (pc := 92) B 0 rfl dX7_begin_92 ?_
        refine zv_iload_n (pc := 93) B 3 rfl dX7_begin_93 ?_
        refine zv_iconst (pc := 94) (v := 2) B rfl dX7_begin_94 ?_
        refine zv_iload_n (pc := 95) B 1 rfl dX7_begin_95 ?_
        refine zv_st (st' := [.int x, .int (nI 2), .int (nI (zn (m_X7_voiceFor ((m_X7_checked c 1).2)))), .ref (b + 111)]) (by rw [← zn_eq (m_X7_voiceFor ((m_X7_checked c 1).2))]; rfl) ?_
        refine zv_callV (pc := 96) (As := [.int (nI (zn (m_X7_voiceFor ((m_X7_checked c 1).2)))), .int (nI 2), .int x]) (rest := []) B (k_X7_lay (k := 2) l E b _ _ _ _  hvf (by decide) x hg2028) (zcwV 3 0 B wm_X7_145 wi_X7_lay wv_X7_lay wn_X7 wcode_X7_lay rfl (by decide +kernel) ⟨(Nat.le_of_ble_eq_true rfl), (Nat.le_of_ble_eq_true rfl)⟩) rfl (zrecv B (zat (by decide) (z111 _ _ _)) cl7) zid rfl (Nat.le_of_ble_eq_true rfl) dX7_begin_96 ⟨(Nat.le_of_ble_eq_true rfl), (Nat.le_of_ble_eq_true rfl)⟩ (fun v9 u9 hv9 => ?_)
        obtain ⟨rfl, hF2029, hg2029⟩ := hv9
        refine zv_st (st' := []) rfl ?_
        refine zv_aload_n (pc := 99) B 0 rfl dX7_begin_99 ?_
        refine zv_iload_n (pc := 100) B 3 rfl dX7_begin_100 ?_
        refine zv_iconst (pc := 101) (v := 3) B rfl dX7_begin_101 ?_
        refine zv_iload_n (pc := 102) B 2 rfl dX7_begin_102 ?_
        refine zv_st (st' := [.int y, .int (nI 3), .int (nI (zn (m_X7_voiceFor ((m_X7_checked c 1).2)))), .ref (b + 111)]) (by rw [← zn_eq (m_X7_voiceFor ((m_X7_checked c 1).2))]; rfl) ?_
        refine zv_callV (pc := 103) (As := [.int (nI (zn (m_X7_voiceFor ((m_X7_checked c 1).2)))), .int (nI 3), .int y]) (rest := []) B (k_X7_lay (k := 3) l E b _ _ _ _  hvf (by decide) y hg2029) (zcwV 3 0 B wm_X7_145 wi_X7_lay wv_X7_lay wn_X7 wcode_X7_lay rfl (by decide +kernel) ⟨(Nat.le_of_ble_eq_true rfl), (Nat.le_of_ble_eq_true rfl)⟩) rfl (zrecv B (zat (by decide) (z111 _ _ _)) cl7) zid rfl (Nat.le_of_ble_eq_true rfl) dX7_begin_103 ⟨(Nat.le_of_ble_eq_true rfl), (Nat.le_of_ble_eq_true rfl)⟩ (fun v9 u9 hv9 => ?_)
        obtain ⟨rfl, hF2030, hg2030⟩ := hv9
        refine zv_st (st' := []) rfl ?_
        refine zv_aload_n (pc := 106) B 0 rfl dX7_begin_106 ?_
        refine zv_iload_n (pc := 107) B 3 rfl dX7_begin_107 ?_
        refine zv_iconst (pc := 108) (v := 4) B rfl dX7_begin_108 ?_
        refine zv_aload_n (pc := 109) B 0 rfl dX7_begin_109 ?_
        refine zv_get (pc := 110) (v := .int ((m_X7_lay (m_X7_lay (m_X7_lay c2 (zn (m_X7_voiceFor ((m_X7_checked c 1).2))) 0 1) (zn (m_X7_voiceFor ((m_X7_checked c 1).2))) 2 x) (zn (m_X7_voiceFor ((m_X7_checked c 1).2))) 3 y) 111 15)) B (zat (by decide) (z111 _ _ _)) cl7 inX7 15 (by decide) wf_X7_57 rfl dX7_begin_110 ?_
        refine zv_topi (y := c2 111 15) (by rw [hF2030 111 (by omega), hF2029 111 (by omega), hF2028 111 (by omega)]) ?_
        refine zv_st (st' := [.int (c2 111 15), .int (nI 4), .int (nI (zn (m_X7_voiceFor ((m_X7_checked c 1).2)))), .ref (b + 111)]) (by rw [← zn_eq (m_X7_voiceFor ((m_X7_checked c 1).2))]; rfl) ?_
        refine zv_callV (pc := 113) (As := [.int (nI (zn (m_X7_voiceFor ((m_X7_checked c 1).2)))), .int (nI 4), .int (c2 111 15)]) (rest := []) B (k_X7_lay (k := 4) l E b _ _ _ _  hvf (by decide) (c2 111 15) hg2030) (zcwV 3 0 B wm_X7_145 wi_X7_lay wv_X7_lay wn_X7 wcode_X7_lay rfl (by decide +kernel) ⟨(Nat.le_of_ble_eq_true rfl), (Nat.le_of_ble_eq_true rfl)⟩) rfl (zrecv B (zat (by decide) (z111 _ _ _)) cl7) zid rfl (Nat.le_of_ble_eq_true rfl) dX7_begin_113 ⟨(Nat.le_of_ble_eq_true rfl), (Nat.le_of_ble_eq_true rfl)⟩ (fun v9 u9 hv9 => ?_)
        obtain ⟨rfl, hF2031, hg2031⟩ := hv9
        refine zv_st (st' := []) rfl ?_
        refine zv_aload_n (pc := 116) B 0 rfl dX7_begin_116 ?_
        refine zv_iload_n (pc := 117) B 3 rfl dX7_begin_117 ?_
        refine zv_iconst (pc := 118) (v := 5) B rfl dX7_begin_118 ?_
        refine zv_aload_n (pc := 119) B 0 rfl dX7_begin_119 ?_
        refine zv_get (pc := 120) (v := .int ((m_X7_lay (m_X7_lay (m_X7_lay (m_X7_lay c2 (zn (m_X7_voiceFor ((m_X7_checked c 1).2))) 0 1) (zn (m_X7_voiceFor ((m_X7_checked c 1).2))) 2 x) (zn (m_X7_voiceFor ((m_X7_checked c 1).2))) 3 y) (zn (m_X7_voiceFor ((m_X7_checked c 1).2))) 4 (c2 111 15)) 111 16)) B (zat (by decide) (z111 _ _ _)) cl7 inX7 16 (by decide) wf_X7_60 rfl dX7_begin_120 ?_
        refine zv_topi (y := c2 111 16) (by rw [hF2031 111 (by omega), hF2030 111 (by omega), hF2029 111 (by omega), hF2028 111 (by omega)]) ?_
        refine zv_st (st' := [.int (c2 111 16), .int (nI 5), .int (nI (zn (m_X7_voiceFor ((m_X7_checked c 1).2)))), .ref (b + 111)]) (by rw [← zn_eq (m_X7_voiceFor ((m_X7_checked c 1).2))]; rfl) ?_
        refine zv_callV (pc := 123) (As := [.int (nI (zn (m_X7_voiceFor ((m_X7_checked c 1).2)))), .int (nI 5), .int (c2 111 16)]) (rest := []) B (k_X7_lay (k := 5) l E b _ _ _ _  hvf (by decide) (c2 111 16) hg2031) (zcwV 3 0 B wm_X7_145 wi_X7_lay wv_X7_lay wn_X7 wcode_X7_lay rfl (by decide +kernel) ⟨(Nat.le_of_ble_eq_true rfl), (Nat.le_of_ble_eq_true rfl)⟩) rfl (zrecv B (zat (by decide) (z111 _ _ _)) cl7) zid rfl (Nat.le_of_ble_eq_true rfl) dX7_begin_123 ⟨(Nat.le_of_ble_eq_true rfl), (Nat.le_of_ble_eq_true rfl)⟩ (fun v9 u9 hv9 => ?_)
        obtain ⟨rfl, hF2032, hg2032⟩ := hv9
        refine zv_st (st' := []) rfl ?_
        refine zv_aload_n (pc := 126) B 0 rfl dX7_begin_126 ?_
        refine zv_iload_n (pc := 127) B 3 rfl dX7_begin_127 ?_
        refine zv_bipush (pc := 128) (v := 6) B rfl dX7_begin_128 ?_
        refine zv_aload_n (pc := 130) B 0 rfl dX7_begin_130 ?_
        refine zv_get (pc := 131) (v := .int ((m_X7_lay (m_X7_lay (m_X7_lay (m_X7_lay (m_X7_lay c2 (zn (m_X7_voiceFor ((m_X7_checked c 1).2))) 0 1) (zn (m_X7_voiceFor ((m_X7_checked c 1).2))) 2 x) (zn (m_X7_voiceFor ((m_X7_checked c 1).2))) 3 y) (zn (m_X7_voiceFor ((m_X7_checked c 1).2))) 4 (c2 111 15)) (zn (m_X7_voiceFor ((m_X7_checked c 1).2))) 5 (c2 111 16)) 111 17)) B (zat (by decide) (z111 _ _ _)) cl7 inX7 17 (by decide) wf_X7_63 rfl dX7_begin_131 ?_
        refine zv_topi (y := c2 111 17) (by rw [hF2032 111 (by omega), hF2031 111 (by omega), hF2030 111 (by omega), hF2029 111 (by omega), hF2028 111 (by omega)]) ?_
        refine zv_st (st' := [.int (c2 111 17), .int (nI 6), .int (nI (zn (m_X7_voiceFor ((m_X7_checked c 1).2)))), .ref (b + 111)]) (by rw [← zn_eq (m_X7_voiceFor ((m_X7_checked c 1).2))]; rfl) ?_
        refine zv_callV (pc := 134) (As := [.int (nI (zn (m_X7_voiceFor ((m_X7_checked c 1).2)))), .int (nI 6), .int (c2 111 17)]) (rest := []) B (k_X7_lay (k := 6) l E b _ _ _ _  hvf (by decide) (c2 111 17) hg2032) (zcwV 3 0 B wm_X7_145 wi_X7_lay wv_X7_lay wn_X7 wcode_X7_lay rfl (by decide +kernel) ⟨(Nat.le_of_ble_eq_true rfl), (Nat.le_of_ble_eq_true rfl)⟩) rfl (zrecv B (zat (by decide) (z111 _ _ _)) cl7) zid rfl (Nat.le_of_ble_eq_true rfl) dX7_begin_134 ⟨(Nat.le_of_ble_eq_true rfl), (Nat.le_of_ble_eq_true rfl)⟩ (fun v9 u9 hv9 => ?_)
        obtain ⟨rfl, hF2033, hg2033⟩ := hv9
        refine zv_st (st' := []) rfl ?_
        refine zv_aload_n (pc := 137) B 0 rfl dX7_begin_137 ?_
        refine zv_iload_n (pc := 138) B 3 rfl dX7_begin_138 ?_
        refine zv_bipush (pc := 139) (v := 7) B rfl dX7_begin_139 ?_
        refine zv_aload_n (pc := 141) B 0 rfl dX7_begin_141 ?_
        refine zv_get (pc := 142) (v := .int ((m_X7_lay (m_X7_lay (m_X7_lay (m_X7_lay (m_X7_lay (m_X7_lay c2 (zn (m_X7_voiceFor ((m_X7_checked c 1).2))) 0 1) (zn (m_X7_voiceFor ((m_X7_checked c 1).2))) 2 x) (zn (m_X7_voiceFor ((m_X7_checked c 1).2))) 3 y) (zn (m_X7_voiceFor ((m_X7_checked c 1).2))) 4 (c2 111 15)) (zn (m_X7_voiceFor ((m_X7_checked c 1).2))) 5 (c2 111 16)) (zn (m_X7_voiceFor ((m_X7_checked c 1).2))) 6 (c2 111 17)) 111 18)) B (zat (by decide) (z111 _ _ _)) cl7 inX7 18 (by decide) wf_X7_66 rfl dX7_begin_142 ?_
        refine zv_topi (y := c2 111 18) (by rw [hF2033 111 (by omega), hF2032 111 (by omega), hF2031 111 (by omega), hF2030 111 (by omega), hF2029 111 (by omega), hF2028 111 (by omega)]) ?_
        refine zv_st (st' := [.int (c2 111 18), .int (nI 7), .int (nI (zn (m_X7_voiceFor ((m_X7_checked c 1).2)))), .ref (b + 111)]) (by rw [← zn_eq (m_X7_voiceFor ((m_X7_checked c 1).2))]; rfl) ?_
        refine zv_callV (pc := 145) (As := [.int (nI (zn (m_X7_voiceFor ((m_X7_checked c 1).2)))), .int (nI 7), .int (c2 111 18)]) (rest := []) B (k_X7_lay (k := 7) l E b _ _ _ _  hvf (by decide) (c2 111 18) hg2033) (zcwV 3 0 B wm_X7_145 wi_X7_lay wv_X7_lay wn_X7 wcode_X7_lay rfl (by decide +kernel) ⟨(Nat.le_of_ble_eq_true rfl), (Nat.le_of_ble_eq_true rfl)⟩) rfl (zrecv B (zat (by decide) (z111 _ _ _)) cl7) zid rfl (Nat.le_of_ble_eq_true rfl) dX7_begin_145 ⟨(Nat.le_of_ble_eq_true rfl), (Nat.le_of_ble_eq_true rfl)⟩ (fun v9 u9 hv9 => ?_)
        obtain ⟨rfl, hF2034, hg2034⟩ := hv9
        refine zv_st (st' := []) rfl ?_
        refine zv_aload_n (pc := 148) B 0 rfl dX7_begin_148 ?_
        refine zv_iload_n (pc := 149) B 3 rfl dX7_begin_149 ?_
        refine zv_bipush (pc := 150) (v := 8) B rfl dX7_begin_150 ?_
        refine zv_aload_n (pc := 152) B 0 rfl dX7_begin_152 ?_
        refine zv_get (pc := 153) (v := .int ((m_X7_lay (m_X7_lay (m_X7_lay (m_X7_lay (m_X7_lay (m_X7_lay (m_X7_lay c2 (zn (m_X7_voiceFor ((m_X7_checked c 1).2))) 0 1) (zn (m_X7_voiceFor ((m_X7_checked c 1).2))) 2 x) (zn (m_X7_voiceFor ((m_X7_checked c 1).2))) 3 y) (zn (m_X7_voiceFor ((m_X7_checked c 1).2))) 4 (c2 111 15)) (zn (m_X7_voiceFor ((m_X7_checked c 1).2))) 5 (c2 111 16)) (zn (m_X7_voiceFor ((m_X7_checked c 1).2))) 6 (c2 111 17)) (zn (m_X7_voiceFor ((m_X7_checked c 1).2))) 7 (c2 111 18)) 111 19)) B (zat (by decide) (z111 _ _ _)) cl7 inX7 19 (by decide) wf_X7_69 rfl dX7_begin_153 ?_
        refine zv_topi (y := c2 111 19) (by rw [hF2034 111 (by omega), hF2033 111 (by omega), hF2032 111 (by omega), hF2031 111 (by omega), hF2030 111 (by omega), hF2029 111 (by omega), hF2028 111 (by omega)]) ?_
        refine zv_st (st' := [.int (c2 111 19), .int (nI 8), .int (nI (zn (m_X7_voiceFor ((m_X7_checked c 1).2)))), .ref (b + 111)]) (by rw [← zn_eq (m_X7_voiceFor ((m_X7_checked c 1).2))]; rfl) ?_
        refine zv_callV (pc := 156) (As := [.int (nI (zn (m_X7_voiceFor ((m_X7_checked c 1).2)))), .int (nI 8), .int (c2 111 19)]) (rest := []) B (k_X7_lay (k := 8) l E b _ _ _ _  hvf (by decide) (c2 111 19) hg2034) (zcwV 3 0 B wm_X7_145 wi_X7_lay wv_X7_lay wn_X7 wcode_X7_lay rfl (by decide +kernel) ⟨(Nat.le_of_ble_eq_true rfl), (Nat.le_of_ble_eq_true rfl)⟩) rfl (zrecv B (zat (by decide) (z111 _ _ _)) cl7) zid rfl (Nat.le_of_ble_eq_true rfl) dX7_begin_156 ⟨(Nat.le_of_ble_eq_true rfl), (Nat.le_of_ble_eq_true rfl)⟩ (fun v9 u9 hv9 => ?_)
        obtain ⟨rfl, hF2035, hg2035⟩ := hv9
        refine zv_st (st' := []) rfl ?_
        refine zv_aload_n (pc := 159) B 0 rfl dX7_begin_159 ?_
        refine zv_iload_n (pc := 160) B 3 rfl dX7_begin_160 ?_
        refine zv_bipush (pc := 161) (v := 13) B rfl dX7_begin_161 ?_
        refine zv_aload_n (pc := 163) B 0 rfl dX7_begin_163 ?_
        refine zv_get (pc := 164) (v := .int ((m_X7_lay (m_X7_lay (m_X7_lay (m_X7_lay (m_X7_lay (m_X7_lay (m_X7_lay (m_X7_lay c2 (zn (m_X7_voiceFor ((m_X7_checked c 1).2))) 0 1) (zn (m_X7_voiceFor ((m_X7_checked c 1).2))) 2 x) (zn (m_X7_voiceFor ((m_X7_checked c 1).2))) 3 y) (zn (m_X7_voiceFor ((m_X7_checked c 1).2))) 4 (c2 111 15)) (zn (m_X7_voiceFor ((m_X7_checked c 1).2))) 5 (c2 111 16)) (zn (m_X7_voiceFor ((m_X7_checked c 1).2))) 6 (c2 111 17)) (zn (m_X7_voiceFor ((m_X7_checked c 1).2))) 7 (c2 111 18)) (zn (m_X7_voiceFor ((m_X7_checked c 1).2))) 8 (c2 111 19)) 111 21)) B (zat (by decide) (z111 _ _ _)) cl7 inX7 21 (by decide) wf_X7_75 rfl dX7_begin_164 ?_
        refine zv_topi (y := c2 111 21) (by rw [hF2035 111 (by omega), hF2034 111 (by omega), hF2033 111 (by omega), hF2032 111 (by omega), hF2031 111 (by omega), hF2030 111 (by omega), hF2029 111 (by omega), hF2028 111 (by omega)]) ?_
        refine zv_st (st' := [.int (c2 111 21), .int (nI 13), .int (nI (zn (m_X7_voiceFor ((m_X7_checked c 1).2)))), .ref (b + 111)]) (by rw [← zn_eq (m_X7_voiceFor ((m_X7_checked c 1).2))]; rfl) ?_
        refine zv_callV (pc := 167) (As := [.int (nI (zn (m_X7_voiceFor ((m_X7_checked c 1).2)))), .int (nI 13), .int (c2 111 21)]) (rest := []) B (k_X7_lay (k := 13) l E b _ _ _ _  hvf (by decide) (c2 111 21) hg2035) (zcwV 3 0 B wm_X7_145 wi_X7_lay wv_X7_lay wn_X7 wcode_X7_lay rfl (by decide +kernel) ⟨(Nat.le_of_ble_eq_true rfl), (Nat.le_of_ble_eq_true rfl)⟩) rfl (zrecv B (zat (by decide) (z111 _ _ _)) cl7) zid rfl (Nat.le_of_ble_eq_true rfl) dX7_begin_167 ⟨(Nat.le_of_ble_eq_true rfl), (Nat.le_of_ble_eq_true rfl)⟩ (fun v9 u9 hv9 => ?_)
        obtain ⟨rfl, hF2036, hg2036⟩ := hv9
        refine zv_st (st' := []) rfl ?_
        refine zv_aload_n (pc := 170) B 0 rfl dX7_begin_170 ?_
        refine zv_dup (pc := 171) B rfl dX7_begin_171 ?_
        refine zv_get (pc := 172) (v := .int ((m_X7_lay (m_X7_lay (m_X7_lay (m_X7_lay (m_X7_lay (m_X7_lay (m_X7_lay (m_X7_lay (m_X7_lay c2 (zn (m_X7_voiceFor ((m_X7_checked c 1).2))) 0 1) (zn (m_X7_voiceFor ((m_X7_checked c 1).2))) 2 x) (zn (m_X7_voiceFor ((m_X7_checked c 1).2))) 3 y) (zn (m_X7_voiceFor ((m_X7_checked c 1).2))) 4 (c2 111 15)) (zn (m_X7_voiceFor ((m_X7_checked c 1).2))) 5 (c2 111 16)) (zn (m_X7_voiceFor ((m_X7_checked c 1).2))) 6 (c2 111 17)) (zn (m_X7_voiceFor ((m_X7_checked c 1).2))) 7 (c2 111 18)) (zn (m_X7_voiceFor ((m_X7_checked c 1).2))) 8 (c2 111 19)) (zn (m_X7_voiceFor ((m_X7_checked c 1).2))) 13 (c2 111 21)) 111 21)) B (zat (by decide) (z111 _ _ _)) cl7 inX7 21 (by decide) wf_X7_75 rfl dX7_begin_172 ?_
        refine zv_topi (y := c2 111 21) (by rw [hF2036 111 (by omega), hF2035 111 (by omega), hF2034 111 (by omega), hF2033 111 (by omega), hF2032 111 (by omega), hF2031 111 (by omega), hF2030 111 (by omega), hF2029 111 (by omega), hF2028 111 (by omega)]) ?_
        refine zv_iconst (pc := 175) (v := 1) B rfl dX7_begin_175 ?_
        refine zv_iadd (pc := 176) B dX7_begin_176 ?_
        refine zs_put9 (pc := 177) (f := 21) (F := fun x9 => [.ref (b + 112), .ref (b + 113), .ref (b + 114), .ref (b + 115), .ref (b + 116), .ref (b + 117), .ref (b + 118), .ref (b + 119), .ref (b + 120), .ref (b + 121), .ref (b + 122), .ref (b + 123), .int (x9 12), .int (x9 13), .int (x9 14), .int (x9 15), .int (x9 16), .int (x9 17), .int (x9 18), .int (x9 19), .int (x9 20), .int (x9 21), .int (x9 22), .int (x9 23), .int (x9 24), .long (w 111)]) B zid (by decide) rfl (fun x => z111 x _ _) cl7 inX7 tyX7 tyX7_ok nmX7 (by decide) wf_X7_75 rfl rfl rfl rfl (Nat.le_of_ble_eq_true rfl) (fun _ _ => rfl) dX7_begin_177 ?_
        refine zv_iload_n (pc := 180) B 3 rfl dX7_begin_180 ?_
        have hE37 : ((m_X7_voiceFor ((m_X7_checked c 1).2)), zup (m_X7_lay (m_X7_lay (m_X7_lay (m_X7_lay (m_X7_lay (m_X7_lay (m_X7_lay (m_X7_lay (m_X7_lay c2 (zn (m_X7_voiceFor ((m_X7_checked c 1).2))) 0 1) (zn (m_X7_voiceFor ((m_X7_checked c 1).2))) 2 x) (zn (m_X7_voiceFor ((m_X7_checked c 1).2))) 3 y) (zn (m_X7_voiceFor ((m_X7_checked c 1).2))) 4 (c2 111 15)) (zn (m_X7_voiceFor ((m_X7_checked c 1).2))) 5 (c2 111 16)) (zn (m_X7_voiceFor ((m_X7_checked c 1).2))) 6 (c2 111 17)) (zn (m_X7_voiceFor ((m_X7_checked c 1).2))) 7 (c2 111 18)) (zn (m_X7_voiceFor ((m_X7_checked c 1).2))) 8 (c2 111 19)) (zn (m_X7_voiceFor ((m_X7_checked c 1).2))) 13 (c2 111 21)) 111 21 ((c2 111 21) + 1)) = m_X7_begin c x y := hE952
        exact zv_iret (pc := 181) B ((m_X7_voiceFor ((m_X7_checked c 1).2))) hr (fun H hP => ⟨(), ⟨(by rw [(zp2 hE37).1]), (by rw [(zp2 hE37).2]; exact (zfr.up (zfr.call2 (zfr.call2 (zfr.call2 (zfr.call2 (zfr.call2 (zfr.call2 (zfr.call2 (zfr.call2 (zfr.call2 hF2 hF2028 (by omega)) hF2029 (by omega)) hF2030 (by omega)) hF2031 (by omega)) hF2032 (by omega)) hF2033 (by omega)) hF2034 (by omega)) hF2035 (by omega)) hF2036 (by omega)) (by omega))), (by rw [(zp2 hE37).2]; exact (zG.up hg2036 (show zn _ ≤ zT9 from zn_T _)))⟩, (by rw [(zp2 hE37).2]; exact hP)⟩) (Nat.le_of_ble_eq_true rfl) (Nat.le_of_ble_eq_true rfl) dX7_begin_181

def g1_X7_end (c : Nat → Nat → Int32) (y : Int32)  : Nat → Nat → Int32 → (Nat → Int32 → Int32 × (Nat → Nat → Int32)) → Int32 × (Nat → Nat → Int32)
  | 0, i, x, K => K i x
  | n + 1, i, x, K => if (m_X7_isHeld c i) = 0 then (g1_X7_end c y n (i + 1) x K) else (if (m_X7_at c i 2) = y then (if x < 0 then (g1_X7_end c y n (i + 1) (nI i) K) else (if (m_X7_at c (zn x) 13) ≤ (m_X7_at c i 13) then (g1_X7_end c y n (i + 1) x K) else (g1_X7_end c y n (i + 1) (nI i) K))) else (g1_X7_end c y n (i + 1) x K))
def m_X7_end (c : Nat → Nat → Int32) (y : Int32) : Int32 × (Nat → Nat → Int32) := g1_X7_end c y 4 0 (-1) (fun i x => if (r_X7_in y 0 59) = 0 then (0, zup c 111 12 1) else (if 0 ≤ x then (x, (m_X7_releases (zup c 111 12 0) (zn x))) else (0, zup c 111 12 2)))
set_option maxRecDepth 100000 in
set_option maxHeartbeats 400000 in
theorem k_X7_end (l : Launch) (E : zE) (b : Nat) (c : Nat → Nat → Int32) (w : Nat → Int64) (en : Nat → Nat) (ea : Nat → Nat → Int32) (y : Int32) {T : Nat} (hT : T < 2 ^ 30) (hL : zLv T (c 112)) (hg : zG c) : zM l yX7_end (.code yX7_end cX7_end 4 (some .int) :: zAll) (zRm 5 0 0) E b [.ref (b + 111), .int y] (zH E b c w en ea) (fun v9 (_ : Unit) => v9 = some (.int (m_X7_end c y).1) ∧ zfr 111 113 111 111 c (m_X7_end c y).2 ∧ zG (m_X7_end c y).2) (fun _ => zH E b ((m_X7_end c y).2) w en ea) 0 0 := by
  refine zM_of "ToneGraphModel" (by decide) rfl rfl (Nat.le_of_ble_eq_true rfl) (L0 := [(0, .ref (b + 111)), (1, .int y)]) rfl ?_
  intro p e s m args below meth c9 B hr hname
  refine zv_iconst (pc := 0) (v := (-1)) B rfl dX7_end_0 ?_
  refine zv_istore_n (pc := 1) (L' := [(2, .int (-1)), (0, .ref (b + 111)), (1, .int y)]) B (by decide) rfl dX7_end_1 ?_
  refine zv_iconst (pc := 2) (v := 0) B rfl dX7_end_2 ?_
  refine zv_istore_n (pc := 3) (L' := [(3, .int 0), (2, .int (-1)), (0, .ref (b + 111)), (1, .int y)]) B (by decide) rfl dX7_end_3 ?_
  have loop1 : ∀ (K : Nat → Int32 → Int32 × (Nat → Nat → Int32)) (n : Nat) (i : Nat) (x : Int32), (x = -1 ∨ zn x < 4) → i + n = 4 → g1_X7_end c y n i x K = m_X7_end c y → (∀ (i : Nat) (x : Int32), (x = -1 ∨ zn x < 4) → i ≤ 4 → K i x = m_X7_end c y → zV p l e (zRm 5 0 0) s m args below meth c9 (MQ below (zQ b (fun v9 (_ : Unit) => v9 = some (.int (m_X7_end c y).1) ∧ zfr 111 113 111 111 c (m_X7_end c y).2 ∧ zG (m_X7_end c y).2) (fun _ => zH E b ((m_X7_end c y).2) w en ea)) args s 0 0 (zA b)) 4 b (zH E b c w en ea) 56 [(0, .ref (b + 111)), (1, .int y), (3, .int (nI i)), (2, .int x)] [] 0 0) → zV p l e (zRm 5 0 0) s m args below meth c9 (MQ below (zQ b (fun v9 (_ : Unit) => v9 = some (.int (m_X7_end c y).1) ∧ zfr 111 113 111 111 c (m_X7_end c y).2 ∧ zG (m_X7_end c y).2) (fun _ => zH E b ((m_X7_end c y).2) w en ea)) args s 0 0 (zA b)) 4 b (zH E b c w en ea) 4 [(0, .ref (b + 111)), (1, .int y), (3, .int (nI i)), (2, .int x)] [] 0 0 := by
    intro K n
    induction n with
    | zero =>
      intro i x hxv hi hE901 hK
      refine zv_iload_n (pc := 4) B 2 rfl dX7_end_4 ?_
      refine zv_iconst (pc := 5) (v := 4) B rfl dX7_end_5 ?_
      refine zv_icmp_ge (pc := 6) (tgt := 56) B dX7_end_6 rfl (fun _ => ?_) (fun h9 => absurd ((z_le (a := 4) (b := i) rfl rfl (by omega) (by omega)).mpr (by omega)) h9)
      exact hK i x hxv (by omega) (Eq.trans (by rw [g1_X7_end]) hE901)
    | succ n ih =>
      intro i x hxv hi hE901 hK
      refine zv_iload_n (pc := 4) B 2 rfl dX7_end_4 ?_
      refine zv_iconst (pc := 5) (v := 4) B rfl dX7_end_5 ?_
      refine zv_icmp_ge (pc := 6) (tgt := 56) B dX7_end_6 rfl (fun h9 => absurd h9 (fun q9 => absurd ((z_le (a := 4) (b := i) rfl rfl (by omega) (by omega)).mp q9) (by omega))) (fun _ => ?_)
      refine zv_aload_n (pc := 9) B 0 rfl dX7_end_9 ?_
      refine zv_iload_n (pc := 10) B 2 rfl dX7_end_10 ?_
      refine zv_callV (pc := 11) (As := [.int (nI i)]) (rest := []) B (k_X7_isHeld l E b _ _ _ _  (by omega)) (zcwV 1 2 B wm_X7_152 wi_X7_isHeld wv_X7_isHeld wn_X7 wcode_X7_isHeld rfl (by decide +kernel) ⟨(Nat.le_of_ble_eq_true rfl), (Nat.le_of_ble_eq_true rfl)⟩) rfl (zrecv B (zat (by decide) (z111 _ _ _)) cl7) zid rfl (Nat.le_of_ble_eq_true rfl) dX7_end_11 ⟨(Nat.le_of_ble_eq_true rfl), (Nat.le_of_ble_eq_true rfl)⟩ (fun v9 u9 hv9 => ?_)
      subst hv9
      refine zv_st (st' := [.int (m_X7_isHeld c i)]) rfl ?_
      refine zv_if_eq (pc := 14) (tgt := 50) B dX7_end_14 rfl (fun h3 => ?_) (fun h3 => ?_)
      · refine zv_iinc (pc := 50) (v := nI (i + 1)) (L' := [(3, .int (nI (i + 1))), (0, .ref (b + 111)), (1, .int y), (2, .int x)]) B 2 rfl (nI_1 _) (by decide) rfl dX7_end_50 ?_
        refine zv_goto (pc := 53) (tgt := 4) B rfl dX7_end_53 ?_
        refine zv_loc (L' := [(0, .ref (b + 111)), (1, .int y), (3, .int (nI (i + 1))), (2, .int x)]) [1, 2, 0, 3] rfl ?_
        exact ih (i + 1) x hxv (by omega) (Eq.trans (by rw [g1_X7_end, if_pos h3]) hE901) hK
      · refine zv_aload_n (pc := 17) B 0 rfl dX7_end_17 ?_
        refine zv_iload_n (pc := 18) B 2 rfl dX7_end_18 ?_
        refine zv_iconst (pc := 19) (v := 2) B rfl dX7_end_19 ?_
        refine zv_st (st' := [.int (nI 2), .int (nI i), .ref (b + 111)]) rfl ?_
        refine zv_callV (pc := 20) (As := [.int (nI i), .int (nI 2)]) (rest := []) B (k_X7_at (k := 2) l E b _ _ _ _  (by omega) (by decide)) (zcwV 2 0 B wm_X7_132 wi_X7_at wv_X7_at wn_X7 wcode_X7_at rfl (by decide +kernel) ⟨(Nat.le_of_ble_eq_true rfl), (Nat.le_of_ble_eq_true rfl)⟩) rfl (zrecv B (zat (by decide) (z111 _ _ _)) cl7) zid rfl (Nat.le_of_ble_eq_true rfl) dX7_end_20 ⟨(Nat.le_of_ble_eq_true rfl), (Nat.le_of_ble_eq_true rfl)⟩ (fun v9 u9 hv9 => ?_)
        subst hv9
        refine zv_st (st' := [.int (m_X7_at c i 2)]) rfl ?_
        refine zv_iload_n (pc := 23) B 1 rfl dX7_end_23 ?_
        refine zv_icmp_ne (pc := 24) (tgt := 50) B dX7_end_24 rfl (fun h4 => ?_) (fun h4 => ?_)
        · refine zv_iinc (pc := 50) (v := nI (i + 1)) (L' := [(3, .int (nI (i + 1))), (0, .ref (b + 111)), (1, .int y), (2, .int x)]) B 2 rfl (nI_1 _) (by decide) rfl dX7_end_50 ?_
          refine zv_goto (pc := 53) (tgt := 4) B rfl dX7_end_53 ?_
          refine zv_loc (L' := [(0, .ref (b + 111)), (1, .int y), (3, .int (nI (i + 1))), (2, .int x)]) [1, 2, 0, 3] rfl ?_
          exact ih (i + 1) x hxv (by omega) (Eq.trans (by rw [g1_X7_end, if_neg h3, if_neg h4]) hE901) hK
        · refine zv_iload_n (pc := 27) B 3 rfl dX7_end_27 ?_
          refine zv_if_lt (pc := 28) (tgt := 48) B dX7_end_28 rfl (fun h5 => ?_) (fun h5 => ?_)
          · refine zv_iload_n (pc := 48) B 2 rfl dX7_end_48 ?_
            refine zv_istore_n (pc := 49) (L' := [(2, .int (nI i)), (0, .ref (b + 111)), (1, .int y), (3, .int (nI i))]) B (by decide) rfl dX7_end_49 ?_
            refine zv_iinc (pc := 50) (v := nI (i + 1)) (L' := [(3, .int (nI (i + 1))), (2, .int (nI i)), (0, .ref (b + 111)), (1, .int y)]) B 3 rfl (nI_1 _) (by decide) rfl dX7_end_50 ?_
            refine zv_goto (pc := 53) (tgt := 4) B rfl dX7_end_53 ?_
            refine zv_loc (L' := [(0, .ref (b + 111)), (1, .int y), (3, .int (nI (i + 1))), (2, .int (nI i))]) [2, 3, 0, 1] rfl ?_
            exact ih (i + 1) (nI i) (Or.inr (by rw [zn_nI (by omega)]; omega)) (by omega) (Eq.trans (by rw [g1_X7_end, if_neg h3, if_pos h4, if_pos h5]) hE901) hK
          · refine zv_aload_n (pc := 31) B 0 rfl dX7_end_31 ?_
            refine zv_iload_n (pc := 32) B 2 rfl dX7_end_32 ?_
            refine zv_bipush (pc := 33) (v := 13) B rfl dX7_end_33 ?_
            refine zv_st (st' := [.int (nI 13), .int (nI i), .ref (b + 111)]) rfl ?_
            refine zv_callV (pc := 35) (As := [.int (nI i), .int (nI 13)]) (rest := []) B (k_X7_at (k := 13) l E b _ _ _ _  (by omega) (by decide)) (zcwV 2 0 B wm_X7_132 wi_X7_at wv_X7_at wn_X7 wcode_X7_at rfl (by decide +kernel) ⟨(Nat.le_of_ble_eq_true rfl), (Nat.le_of_ble_eq_true rfl)⟩) rfl (zrecv B (zat (by decide) (z111 _ _ _)) cl7) zid rfl (Nat.le_of_ble_eq_true rfl) dX7_end_35 ⟨(Nat.le_of_ble_eq_true rfl), (Nat.le_of_ble_eq_true rfl)⟩ (fun v9 u9 hv9 => ?_)
            subst hv9
            refine zv_st (st' := [.int (m_X7_at c i 13)]) rfl ?_
            refine zv_aload_n (pc := 38) B 0 rfl dX7_end_38 ?_
            refine zv_iload_n (pc := 39) B 3 rfl dX7_end_39 ?_
            refine zv_bipush (pc := 40) (v := 13) B rfl dX7_end_40 ?_
            refine zv_st (st' := [.int (nI 13), .int (nI (zn x)), .ref (b + 111), .int (m_X7_at c i 13)]) (by rw [← zn_eq x]; rfl) ?_
            refine zv_callV (pc := 42) (As := [.int (nI (zn x)), .int (nI 13)]) (rest := [.int (m_X7_at c i 13)]) B (k_X7_at (k := 13) l E b _ _ _ _  (hxv.resolve_left (fun q => h5 (by rw [q]; decide))) (by decide)) (zcwV 2 0 B wm_X7_132 wi_X7_at wv_X7_at wn_X7 wcode_X7_at rfl (by decide +kernel) ⟨(Nat.le_of_ble_eq_true rfl), (Nat.le_of_ble_eq_true rfl)⟩) rfl (zrecv B (zat (by decide) (z111 _ _ _)) cl7) zid rfl (Nat.le_of_ble_eq_true rfl) dX7_end_42 ⟨(Nat.le_of_ble_eq_true rfl), (Nat.le_of_ble_eq_true rfl)⟩ (fun v9 u9 hv9 => ?_)
            subst hv9
            refine zv_st (st' := [.int (m_X7_at c (zn x) 13), .int (m_X7_at c i 13)]) rfl ?_
            refine zv_icmp_ge (pc := 45) (tgt := 50) B dX7_end_45 rfl (fun h6 => ?_) (fun h6 => ?_)
            · refine zv_iinc (pc := 50) (v := nI (i + 1)) (L' := [(3, .int (nI (i + 1))), (0, .ref (b + 111)), (1, .int y), (2, .int x)]) B 2 rfl (nI_1 _) (by decide) rfl dX7_end_50 ?_
              refine zv_goto (pc := 53) (tgt := 4) B rfl dX7_end_53 ?_
              refine zv_loc (L' := [(0, .ref (b + 111)), (1, .int y), (3, .int (nI (i + 1))), (2, .int x)]) [1, 2, 0, 3] rfl ?_
              exact ih (i + 1) x hxv (by omega) (Eq.trans (by rw [g1_X7_end, if_neg h3, if_pos h4, if_neg h5, if_pos h6]) hE901) hK
            · refine zv_iload_n (pc := 48) B 2 rfl dX7_end_48 ?_
              refine zv_istore_n (pc := 49) (L' := [(2, .int (nI i)), (0, .ref (b + 111)), (1, .int y), (3, .int (nI i))]) B (by decide) rfl dX7_end_49 ?_
              refine zv_iinc (pc := 50) (v := nI (i + 1)) (L' := [(3, .int (nI (i + 1))), (2, .int (nI i)), (0, .ref (b + 111)), (1, .int y)]) B 3 rfl (nI_1 _) (by decide) rfl dX7_end_50 ?_
              refine zv_goto (pc := 53) (tgt := 4) B rfl dX7_end_53 ?_
              refine zv_loc (L' := [(0, .ref (b + 111)), (1, .int y), (3, .int (nI (i + 1))), (2, .int (nI i))]) [2, 3, 0, 1] rfl ?_
              exact ih (i + 1) (nI i) (Or.inr (by rw [zn_nI (by omega)]; omega)) (by omega) (Eq.trans (by rw [g1_X7_end, if_neg h3, if_pos h4, if_neg h5, if_neg h6]) hE901) hK
  refine zv_loc (L' := [(0, .ref (b + 111)), (1, .int y), (3, .int 0), (2, .int (-1))]) [2, 3, 0, 1] rfl ?_
  refine loop1 (fun i x => if (r_X7_in y 0 59) = 0 then (0, zup c 111 12 1) else (if 0 ≤ x then (x, (m_X7_releases (zup c 111 12 0) (zn x))) else (0, zup c 111 12 2))) 4 0 (-1) (Or.inl rfl) (by omega) (by unfold m_X7_end; rfl) ?_
  intro i x hxv hx
  intro (hE951 : (if (r_X7_in y 0 59) = 0 then (0, zup c 111 12 1) else (if 0 ≤ x then (x, (m_X7_releases (zup c 111 12 0) (zn x))) else (0, zup c 111 12 2))) = m_X7_end c y)
  refine zv_aload_n (pc := 56) B 0 rfl dX7_end_56 ?_
  refine zv_iload_n (pc := 57) B 1 rfl dX7_end_57 ?_
  refine zv_iconst (pc := 58) (v := 0) B rfl dX7_end_58 ?_
  refine zv_bipush (pc := 59) (v := 59) B rfl dX7_end_59 ?_
  refine zv_callS (pc := 61) (As := [.int y, .int 0, .int 59]) (rest := [.ref (b + 111)]) B (k_X7_in l E b y 0 59) (zcwS 3 0 B wm_X7_94 ws_X7_in wn_X7 wcode_X7_in (by decide +kernel) ⟨(Nat.le_of_ble_eq_true rfl), (Nat.le_of_ble_eq_true rfl)⟩) rfl zid rfl (Nat.le_of_ble_eq_true rfl) dX7_end_61 ⟨(Nat.le_of_ble_eq_true rfl), (Nat.le_of_ble_eq_true rfl)⟩ (fun v9 u9 hv9 => ?_)
  subst hv9
  refine zv_st (st' := [.int (r_X7_in y 0 59), .ref (b + 111)]) rfl ?_
  refine zv_if_ne (pc := 64) (tgt := 71) B dX7_end_64 rfl (fun h7 => ?_) (fun h7 => ?_)
  · refine zv_iload_n (pc := 71) B 3 rfl dX7_end_71 ?_
    refine zv_if_ge (pc := 72) (tgt := 79) B dX7_end_72 rfl (fun h8 => ?_) (fun h8 => ?_)
    · refine zv_iconst (pc := 79) (v := 0) B rfl dX7_end_79 ?_
      refine zs_put9 (pc := 80) (f := 12) (F := fun x9 => [.ref (b + 112), .ref (b + 113), .ref (b + 114), .ref (b + 115), .ref (b + 116), .ref (b + 117), .ref (b + 118), .ref (b + 119), .ref (b + 120), .ref (b + 121), .ref (b + 122), .ref (b + 123), .int (x9 12), .int (x9 13), .int (x9 14), .int (x9 15), .int (x9 16), .int (x9 17), .int (x9 18), .int (x9 19), .int (x9 20), .int (x9 21), .int (x9 22), .int (x9 23), .int (x9 24), .long (w 111)]) B zid (by decide) rfl (fun x => z111 x _ _) cl7 inX7 tyX7 tyX7_ok nmX7 (by decide) wf_X7_47 rfl rfl rfl rfl (Nat.le_of_ble_eq_true rfl) (fun _ _ => rfl) dX7_end_80 ?_
      refine zv_aload_n (pc := 83) B 0 rfl dX7_end_83 ?_
      refine zv_get (pc := 84) (v := .int ((zup c 111 12 0) 111 12)) B (zat (by decide) (z111 _ _ _)) cl7 inX7 12 (by decide) wf_X7_47 rfl dX7_end_84 ?_
      refine zv_topi (y := 0) (by rw [zup_s]) ?_
      refine zv_if_le (pc := 87) (tgt := 92) B dX7_end_87 rfl (fun _ => ?_) (fun h9 => absurd (by decide) h9)
      have hx4 : zn x < 4 := hxv.resolve_left (fun q => absurd h8 (by rw [q]; decide))
      refine zv_aload_n (pc := 92) B 0 rfl dX7_end_92 ?_
      refine zv_iload_n (pc := 93) B 3 rfl dX7_end_93 ?_
      refine zv_st (st' := [.int (nI (zn x)), .ref (b + 111)]) (by rw [← zn_eq x]) ?_
      refine zv_callV (pc := 94) (As := [.int (nI (zn x))]) (rest := []) B (k_X7_releases l E b _ _ _ _  hx4 (zLv.z1 (by rw [zup_i _ _ _ (by decide)]; exact hL) hT hx4) (zLv.z2 (by rw [zup_i _ _ _ (by decide)]; exact hL) hT hx4) (zLv.z3 (by rw [zup_i _ _ _ (by decide)]; exact hL) hT hx4) (zG.up hg (show zn _ ≤ zT9 from zn_T _))) (zcwV 1 4 B wm_X7_155 wi_X7_releases wv_X7_releases wn_X7 wcode_X7_releases rfl (by decide +kernel) ⟨(Nat.le_of_ble_eq_true rfl), (Nat.le_of_ble_eq_true rfl)⟩) rfl (zrecv B (zat (by decide) (z111 _ _ _)) cl7) zid rfl (Nat.le_of_ble_eq_true rfl) dX7_end_94 ⟨(Nat.le_of_ble_eq_true rfl), (Nat.le_of_ble_eq_true rfl)⟩ (fun v9 u9 hv9 => ?_)
      obtain ⟨rfl, hF2010, hg2010⟩ := hv9
      refine zv_st (st' := []) rfl ?_
      refine zv_iload_n (pc := 97) B 3 rfl dX7_end_97 ?_
      have hE11 : (x, (m_X7_releases (zup c 111 12 0) (zn x))) = m_X7_end c y := (Eq.trans (by rw [if_neg h7, if_pos h8]) hE951)
      exact zv_iret (pc := 98) B (x) hr (fun H hP => ⟨(), ⟨(by rw [(zp2 hE11).1]), (by rw [(zp2 hE11).2]; exact (zfr.call2 (zfr.up zfr.refl (by omega)) hF2010 (by omega))), (by rw [(zp2 hE11).2]; exact hg2010)⟩, (by rw [(zp2 hE11).2]; exact hP)⟩) (Nat.le_of_ble_eq_true rfl) (Nat.le_of_ble_eq_true rfl) dX7_end_98
    · refine zv_iconst (pc := 75) (v := 2) B rfl dX7_end_75 ?_
      refine zv_goto (pc := 76) (tgt := 80) B rfl dX7_end_76 ?_
      refine zs_put9 (pc := 80) (f := 12) (F := fun x9 => [.ref (b + 112), .ref (b + 113), .ref (b + 114), .ref (b + 115), .ref (b + 116), .ref (b + 117), .ref (b + 118), .ref (b + 119), .ref (b + 120), .ref (b + 121), .ref (b + 122), .ref (b + 123), .int (x9 12), .int (x9 13), .int (x9 14), .int (x9 15), .int (x9 16), .int (x9 17), .int (x9 18), .int (x9 19), .int (x9 20), .int (x9 21), .int (x9 22), .int (x9 23), .int (x9 24), .long (w 111)]) B zid (by decide) rfl (fun x => z111 x _ _) cl7 inX7 tyX7 tyX7_ok nmX7 (by decide) wf_X7_47 rfl rfl rfl rfl (Nat.le_of_ble_eq_true rfl) (fun _ _ => rfl) dX7_end_80 ?_
      refine zv_aload_n (pc := 83) B 0 rfl dX7_end_83 ?_
      refine zv_get (pc := 84) (v := .int ((zup c 111 12 2) 111 12)) B (zat (by decide) (z111 _ _ _)) cl7 inX7 12 (by decide) wf_X7_47 rfl dX7_end_84 ?_
      refine zv_topi (y := 2) (by rw [zup_s]) ?_
      refine zv_if_le (pc := 87) (tgt := 92) B dX7_end_87 rfl (fun h9 => absurd h9 (by decide)) (fun _ => ?_)
      refine zv_iconst (pc := 90) (v := 0) B rfl dX7_end_90 ?_
      have hE13 : (0, zup c 111 12 2) = m_X7_end c y := (Eq.trans (by rw [if_neg h7, if_neg h8]) hE951)
      exact zv_iret (pc := 91) B (0) hr (fun H hP => ⟨(), ⟨(by rw [(zp2 hE13).1]), (by rw [(zp2 hE13).2]; exact (zfr.up zfr.refl (by omega))), (by rw [(zp2 hE13).2]; exact (zG.up hg (show zn _ ≤ zT9 from zn_T _)))⟩, (by rw [(zp2 hE13).2]; exact hP)⟩) (Nat.le_of_ble_eq_true rfl) (Nat.le_of_ble_eq_true rfl) dX7_end_91
  · refine zv_iconst (pc := 67) (v := 1) B rfl dX7_end_67 ?_
    refine zv_goto (pc := 68) (tgt := 80) B rfl dX7_end_68 ?_
    refine zs_put9 (pc := 80) (f := 12) (F := fun x9 => [.ref (b + 112), .ref (b + 113), .ref (b + 114), .ref (b + 115), .ref (b + 116), .ref (b + 117), .ref (b + 118), .ref (b + 119), .ref (b + 120), .ref (b + 121), .ref (b + 122), .ref (b + 123), .int (x9 12), .int (x9 13), .int (x9 14), .int (x9 15), .int (x9 16), .int (x9 17), .int (x9 18), .int (x9 19), .int (x9 20), .int (x9 21), .int (x9 22), .int (x9 23), .int (x9 24), .long (w 111)]) B zid (by decide) rfl (fun x => z111 x _ _) cl7 inX7 tyX7 tyX7_ok nmX7 (by decide) wf_X7_47 rfl rfl rfl rfl (Nat.le_of_ble_eq_true rfl) (fun _ _ => rfl) dX7_end_80 ?_
    refine zv_aload_n (pc := 83) B 0 rfl dX7_end_83 ?_
    refine zv_get (pc := 84) (v := .int ((zup c 111 12 1) 111 12)) B (zat (by decide) (z111 _ _ _)) cl7 inX7 12 (by decide) wf_X7_47 rfl dX7_end_84 ?_
    refine zv_topi (y := 1) (by rw [zup_s]) ?_
    refine zv_if_le (pc := 87) (tgt := 92) B dX7_end_87 rfl (fun h9 => absurd h9 (by decide)) (fun _ => ?_)
    refine zv_iconst (pc := 90) (v := 0) B rfl dX7_end_90 ?_
    have hE15 : (0, zup c 111 12 1) = m_X7_end c y := (Eq.trans (by rw [if_pos h7]) hE951)
    exact zv_iret (pc := 91) B (0) hr (fun H hP => ⟨(), ⟨(by rw [(zp2 hE15).1]), (by rw [(zp2 hE15).2]; exact (zfr.up zfr.refl (by omega))), (by rw [(zp2 hE15).2]; exact (zG.up hg (show zn _ ≤ zT9 from zn_T _)))⟩, (by rw [(zp2 hE15).2]; exact hP)⟩) (Nat.le_of_ble_eq_true rfl) (Nat.le_of_ble_eq_true rfl) dX7_end_91

def g1_X7_endAll (c : Nat → Nat → Int32)  : Nat → Nat → Int32 → (Nat → Nat → Int32) → (Nat → Int32 → (Nat → Nat → Int32) → Int32 × (Nat → Nat → Int32)) → Int32 × (Nat → Nat → Int32)
  | 0, i, x, c1, K => K i x c1
  | n + 1, i, x, c1, K => if (m_X7_isHeld c1 i) = 0 then (g1_X7_endAll c n (i + 1) x c1 K) else (g1_X7_endAll c n (i + 1) (x + 1) (m_X7_releases c1 i) K)
def m_X7_endAll (c : Nat → Nat → Int32) : Int32 × (Nat → Nat → Int32) := g1_X7_endAll c 4 0 0 c (fun i x c1 => ((m_X7_plain c1 x).1, (m_X7_plain c1 x).2))
set_option maxRecDepth 100000 in
set_option maxHeartbeats 400000 in
theorem k_X7_endAll (l : Launch) (E : zE) (b : Nat) (c : Nat → Nat → Int32) (w : Nat → Int64) (en : Nat → Nat) (ea : Nat → Nat → Int32) {T : Nat} (hT : T < 2 ^ 30) (hL : zLv T (c 112)) (hg : zG c) : zM l yX7_endAll (.code yX7_endAll cX7_endAll 3 (some .int) :: zAll) (zRm 5 0 0) E b [.ref (b + 111)] (zH E b c w en ea) (fun v9 (_ : Unit) => v9 = some (.int (m_X7_endAll c).1) ∧ zfr 111 113 111 111 c (m_X7_endAll c).2 ∧ zG (m_X7_endAll c).2) (fun _ => zH E b ((m_X7_endAll c).2) w en ea) 0 0 := by
  refine zM_of "ToneGraphModel" (by decide) rfl rfl (Nat.le_of_ble_eq_true rfl) (L0 := [(0, .ref (b + 111))]) rfl ?_
  intro p e s m args below meth c9 B hr hname
  refine zv_iconst (pc := 0) (v := 0) B rfl dX7_endAll_0 ?_
  refine zv_istore_n (pc := 1) (L' := [(1, .int 0), (0, .ref (b + 111))]) B (by decide) rfl dX7_endAll_1 ?_
  refine zv_iconst (pc := 2) (v := 0) B rfl dX7_endAll_2 ?_
  refine zv_istore_n (pc := 3) (L' := [(2, .int 0), (1, .int 0), (0, .ref (b + 111))]) B (by decide) rfl dX7_endAll_3 ?_
  have loop1 : ∀ (K : Nat → Int32 → (Nat → Nat → Int32) → Int32 × (Nat → Nat → Int32)) (n : Nat) (i : Nat) (x : Int32) (c1 : Nat → Nat → Int32), zfr 111 113 111 111 c c1 → zG c1 → zLv T (c1 112) → i + n = 4 → g1_X7_endAll c n i x c1 K = m_X7_endAll c → (∀ (i : Nat) (x : Int32) (c1 : Nat → Nat → Int32), zfr 111 113 111 111 c c1 → zG c1 → zLv T (c1 112) → i ≤ 4 → K i x c1 = m_X7_endAll c → zV p l e (zRm 5 0 0) s m args below meth c9 (MQ below (zQ b (fun v9 (_ : Unit) => v9 = some (.int (m_X7_endAll c).1) ∧ zfr 111 113 111 111 c (m_X7_endAll c).2 ∧ zG (m_X7_endAll c).2) (fun _ => zH E b ((m_X7_endAll c).2) w en ea)) args s 0 0 (zA b)) 3 b (zH E b c1 w en ea) 34 [(0, .ref (b + 111)), (2, .int (nI i)), (1, .int x)] [] 0 0) → zV p l e (zRm 5 0 0) s m args below meth c9 (MQ below (zQ b (fun v9 (_ : Unit) => v9 = some (.int (m_X7_endAll c).1) ∧ zfr 111 113 111 111 c (m_X7_endAll c).2 ∧ zG (m_X7_endAll c).2) (fun _ => zH E b ((m_X7_endAll c).2) w en ea)) args s 0 0 (zA b)) 3 b (zH E b c1 w en ea) 4 [(0, .ref (b + 111)), (2, .int (nI i)), (1, .int x)] [] 0 0 := by
    intro K n
    induction n with
    | zero =>
      intro i x c1 hF1 hg1 hL9 hi hE901 hK
      refine zv_iload_n (pc := 4) B 1 rfl dX7_endAll_4 ?_
      refine zv_iconst (pc := 5) (v := 4) B rfl dX7_endAll_5 ?_
      refine zv_icmp_ge (pc := 6) (tgt := 34) B dX7_endAll_6 rfl (fun _ => ?_) (fun h9 => absurd ((z_le (a := 4) (b := i) rfl rfl (by omega) (by omega)).mpr (by omega)) h9)
      exact hK i x c1 hF1 hg1 hL9 (by omega) (Eq.trans (by rw [g1_X7_endAll]) hE901)
    | succ n ih =>
      intro i x c1 hF1 hg1 hL9 hi hE901 hK
      refine zv_iload_n (pc := 4) B 1 rfl dX7_endAll_4 ?_
      refine zv_iconst (pc := 5) (v := 4) B rfl dX7_endAll_5 ?_
      refine zv_icmp_ge (pc := 6) (tgt := 34) B dX7_endAll_6 rfl (fun h9 => absurd h9 (fun q9 => absurd ((z_le (a := 4) (b := i) rfl rfl (by omega) (by omega)).mp q9) (by omega))) (fun _ => ?_)
      refine zv_aload_n (pc := 9) B 0 rfl dX7_endAll_9 ?_
      refine zv_iload_n (pc := 10) B 1 rfl dX7_endAll_10 ?_
      refine zv_callV (pc := 11) (As := [.int (nI i)]) (rest := []) B (k_X7_isHeld l E b _ _ _ _  (by omega)) (zcwV 1 2 B wm_X7_152 wi_X7_isHeld wv_X7_isHeld wn_X7 wcode_X7_isHeld rfl (by decide +kernel) ⟨(Nat.le_of_ble_eq_true rfl), (Nat.le_of_ble_eq_true rfl)⟩) rfl (zrecv B (zat (by decide) (z111 _ _ _)) cl7) zid rfl (Nat.le_of_ble_eq_true rfl) dX7_endAll_11 ⟨(Nat.le_of_ble_eq_true rfl), (Nat.le_of_ble_eq_true rfl)⟩ (fun v9 u9 hv9 => ?_)
      subst hv9
      refine zv_st (st' := [.int (m_X7_isHeld c1 i)]) rfl ?_
      refine zv_if_ne (pc := 14) (tgt := 20) B dX7_endAll_14 rfl (fun h3 => ?_) (fun h3 => ?_)
      · refine zv_aload_n (pc := 20) B 0 rfl dX7_endAll_20 ?_
        refine zv_iload_n (pc := 21) B 1 rfl dX7_endAll_21 ?_
        refine zv_callV (pc := 22) (As := [.int (nI i)]) (rest := []) B (k_X7_releases l E b _ _ _ _  (by omega) (zLv.z1 hL9 hT (by omega)) (zLv.z2 hL9 hT (by omega)) (zLv.z3 hL9 hT (by omega)) hg1) (zcwV 1 4 B wm_X7_155 wi_X7_releases wv_X7_releases wn_X7 wcode_X7_releases rfl (by decide +kernel) ⟨(Nat.le_of_ble_eq_true rfl), (Nat.le_of_ble_eq_true rfl)⟩) rfl (zrecv B (zat (by decide) (z111 _ _ _)) cl7) zid rfl (Nat.le_of_ble_eq_true rfl) dX7_endAll_22 ⟨(Nat.le_of_ble_eq_true rfl), (Nat.le_of_ble_eq_true rfl)⟩ (fun v9 u9 hv9 => ?_)
        obtain ⟨rfl, hF2004, hg2004⟩ := hv9
        refine zv_st (st' := []) rfl ?_
        refine zv_iinc (pc := 25) (v := x + 1) (L' := [(1, .int (x + 1)), (0, .ref (b + 111)), (2, .int (nI i))]) B 2 rfl rfl (by decide) rfl dX7_endAll_25 ?_
        refine zv_iinc (pc := 28) (v := nI (i + 1)) (L' := [(2, .int (nI (i + 1))), (1, .int (x + 1)), (0, .ref (b + 111))]) B 2 rfl (nI_1 _) (by decide) rfl dX7_endAll_28 ?_
        refine zv_goto (pc := 31) (tgt := 4) B rfl dX7_endAll_31 ?_
        refine zv_loc (L' := [(0, .ref (b + 111)), (2, .int (nI (i + 1))), (1, .int (x + 1))]) [2, 0, 1] rfl ?_
        exact ih (i + 1) (x + 1) (m_X7_releases c1 i) (zfr.call2 hF1 hF2004 (by omega)) hg2004 (hL9.releases _) (by omega) (Eq.trans (by rw [g1_X7_endAll, if_neg h3]) hE901) hK
      · refine zv_goto (pc := 17) (tgt := 28) B rfl dX7_endAll_17 ?_
        refine zv_iinc (pc := 28) (v := nI (i + 1)) (L' := [(2, .int (nI (i + 1))), (0, .ref (b + 111)), (1, .int x)]) B 1 rfl (nI_1 _) (by decide) rfl dX7_endAll_28 ?_
        refine zv_goto (pc := 31) (tgt := 4) B rfl dX7_endAll_31 ?_
        refine zv_loc (L' := [(0, .ref (b + 111)), (2, .int (nI (i + 1))), (1, .int x)]) [1, 0, 2] rfl ?_
        exact ih (i + 1) x c1 hF1 hg1 hL9 (by omega) (Eq.trans (by rw [g1_X7_endAll, if_pos h3]) hE901) hK
  refine zv_loc (L' := [(0, .ref (b + 111)), (2, .int 0), (1, .int 0)]) [2, 0, 1] rfl ?_
  refine loop1 (fun i x c1 => ((m_X7_plain c1 x).1, (m_X7_plain c1 x).2)) 4 0 0 c zfr.refl hg hL (by omega) (by unfold m_X7_endAll; rfl) ?_
  intro i x c1 hF1 hg1 hL9 hx
  intro (hE951 : ((m_X7_plain c1 x).1, (m_X7_plain c1 x).2) = m_X7_endAll c)
  refine zv_aload_n (pc := 34) B 0 rfl dX7_endAll_34 ?_
  refine zv_iload_n (pc := 35) B 2 rfl dX7_endAll_35 ?_
  refine zv_callV (pc := 36) (As := [.int x]) (rest := []) B (k_X7_plain l E b _ _ _ _  x hg1) (zcwV 1 0 B wm_X7_125 wi_X7_plain wv_X7_plain wn_X7 wcode_X7_plain rfl (by decide +kernel) ⟨(Nat.le_of_ble_eq_true rfl), (Nat.le_of_ble_eq_true rfl)⟩) rfl (zrecv B (zat (by decide) (z111 _ _ _)) cl7) zid rfl (Nat.le_of_ble_eq_true rfl) dX7_endAll_36 ⟨(Nat.le_of_ble_eq_true rfl), (Nat.le_of_ble_eq_true rfl)⟩ (fun v9 u9 hv9 => ?_)
  obtain ⟨rfl, hF2005, hg2005⟩ := hv9
  refine zv_st (st' := [.int ((m_X7_plain c1 x).1)]) rfl ?_
  have hE6 : ((m_X7_plain c1 x).1, (m_X7_plain c1 x).2) = m_X7_endAll c := hE951
  exact zv_iret (pc := 39) B ((m_X7_plain c1 x).1) hr (fun H hP => ⟨(), ⟨(by rw [(zp2 hE6).1]), (by rw [(zp2 hE6).2]; exact (zfr.call2 hF1 hF2005 (by omega))), (by rw [(zp2 hE6).2]; exact hg2005)⟩, (by rw [(zp2 hE6).2]; exact hP)⟩) (Nat.le_of_ble_eq_true rfl) (Nat.le_of_ble_eq_true rfl) dX7_endAll_39

def g1_X7_placeOf (c : Nat → Nat → Int32) (x : Int32)  : Nat → Nat → (Nat → Int32) → Int32
  | 0, k, K => K k
  | n + 1, k, K => if (c 121 k) = x then (K k) else (g1_X7_placeOf c x n (k + 1) K)
def m_X7_placeOf (c : Nat → Nat → Int32) (x : Int32) : Int32 := g1_X7_placeOf c x 9 0 (fun k => nI k)
set_option maxRecDepth 100000 in
set_option maxHeartbeats 400000 in
theorem k_X7_placeOf (l : Launch) (E : zE) (b : Nat) (c : Nat → Nat → Int32) (w : Nat → Int64) (en : Nat → Nat) (ea : Nat → Nat → Int32) (x : Int32) (hO : ∃ q, q < 10 ∧ c 121 q = x) (hg : zG c) : zM l yX7_placeOf (.code yX7_placeOf cX7_placeOf 3 (some .int) :: zAll) (zRm 0 0 0) E b [.ref (b + 111), .int x] (zH E b c w en ea) (fun v9 (_ : Unit) => v9 = some (.int (m_X7_placeOf c x))) (fun _ => zH E b c w en ea) 0 0 := by
  refine zM_of "ToneGraphModel" (by decide) rfl rfl (Nat.le_of_ble_eq_true rfl) (L0 := [(0, .ref (b + 111)), (1, .int x)]) rfl ?_
  intro p e s m args below meth c9 B hr hname
  refine zv_iconst (pc := 0) (v := 0) B rfl dX7_placeOf_0 ?_
  refine zv_istore_n (pc := 1) (L' := [(2, .int 0), (0, .ref (b + 111)), (1, .int x)]) B (by decide) rfl dX7_placeOf_1 ?_
  have loop1 : ∀ (K : Nat → Int32) (n : Nat) (k : Nat), (∃ q, q < 10 ∧ k ≤ q ∧ c 121 q = x) → k + n = 9 → g1_X7_placeOf c x n k K = m_X7_placeOf c x → (∀ (k : Nat), (∃ q, q < 10 ∧ k ≤ q ∧ c 121 q = x) → k < 10 → K k = m_X7_placeOf c x → zV p l e (zRm 0 0 0) s m args below meth c9 (MQ below (zQ b (fun v9 (_ : Unit) => v9 = some (.int (m_X7_placeOf c x))) (fun _ => zH E b c w en ea)) args s 0 0 (zA b)) 3 b (zH E b c w en ea) 18 [(0, .ref (b + 111)), (1, .int x), (2, .int (nI k))] [] 0 0) → zV p l e (zRm 0 0 0) s m args below meth c9 (MQ below (zQ b (fun v9 (_ : Unit) => v9 = some (.int (m_X7_placeOf c x))) (fun _ => zH E b c w en ea)) args s 0 0 (zA b)) 3 b (zH E b c w en ea) 2 [(0, .ref (b + 111)), (1, .int x), (2, .int (nI k))] [] 0 0 := by
    intro K n
    induction n with
    | zero =>
      intro k hJ hi hE901 hK
      refine zv_aload_n (pc := 2) B 0 rfl dX7_placeOf_2 ?_
      refine zv_get (pc := 3) (v := .ref (b + 121)) B (zat (by decide) (z111 _ _ _)) cl7 inX7 9 (by decide) wf_X7_37 rfl dX7_placeOf_3 ?_
      refine zv_iload_n (pc := 6) B 2 rfl dX7_placeOf_6 ?_
      refine zv_iald (pc := 7) (jj := k) B (zat (by decide) (z121 _ _ _)) rfl (by omega) (by decide) dX7_placeOf_7 ?_
      refine zv_iload_n (pc := 8) B 1 rfl dX7_placeOf_8 ?_
      refine zv_icmp_eq (pc := 9) (tgt := 18) B dX7_placeOf_9 rfl (fun _ => ?_) (fun h9 => absurd (by obtain ⟨q, h1q, h2q, h3q⟩ := hJ; have e : q = k := (by omega); rw [← e]; exact h3q) h9)
      exact hK k hJ (by omega) (Eq.trans (by rw [g1_X7_placeOf]) hE901)
    | succ n ih =>
      intro k hJ hi hE901 hK
      refine zv_aload_n (pc := 2) B 0 rfl dX7_placeOf_2 ?_
      refine zv_get (pc := 3) (v := .ref (b + 121)) B (zat (by decide) (z111 _ _ _)) cl7 inX7 9 (by decide) wf_X7_37 rfl dX7_placeOf_3 ?_
      refine zv_iload_n (pc := 6) B 2 rfl dX7_placeOf_6 ?_
      refine zv_iald (pc := 7) (jj := k) B (zat (by decide) (z121 _ _ _)) rfl (by omega) (by decide) dX7_placeOf_7 ?_
      refine zv_iload_n (pc := 8) B 1 rfl dX7_placeOf_8 ?_
      refine zv_icmp_eq (pc := 9) (tgt := 18) B dX7_placeOf_9 rfl (fun h2 => ?_) (fun h2 => ?_)
      · exact hK k hJ (by omega) (Eq.trans (by rw [g1_X7_placeOf, if_pos h2]) hE901)
      · refine zv_iinc (pc := 12) (v := nI (k + 1)) (L' := [(2, .int (nI (k + 1))), (0, .ref (b + 111)), (1, .int x)]) B 2 rfl (nI_1 _) (by decide) rfl dX7_placeOf_12 ?_
        refine zv_goto (pc := 15) (tgt := 2) B rfl dX7_placeOf_15 ?_
        refine zv_loc (L' := [(0, .ref (b + 111)), (1, .int x), (2, .int (nI (k + 1)))]) [1, 2, 0] rfl ?_
        exact ih (k + 1) (by obtain ⟨q, h1q, h2q, h3q⟩ := hJ; exact ⟨q, h1q, (by rcases Nat.eq_or_lt_of_le h2q with e | e; (· exact absurd (e ▸ h3q) h2); (· exact e)), h3q⟩) (by omega) (Eq.trans (by rw [g1_X7_placeOf, if_neg h2]) hE901) hK
  refine zv_loc (L' := [(0, .ref (b + 111)), (1, .int x), (2, .int 0)]) [1, 2, 0] rfl ?_
  refine loop1 (fun k => nI k) 9 0 (by obtain ⟨q, h1q, h3q⟩ := hO; exact ⟨q, h1q, Nat.zero_le _, h3q⟩) (by omega) (by unfold m_X7_placeOf; rfl) ?_
  intro k hJ hx
  intro (hE951 : nI k = m_X7_placeOf c x)
  refine zv_iload_n (pc := 18) B 2 rfl dX7_placeOf_18 ?_
  have hE3 : nI k = m_X7_placeOf c x := hE951
  exact zv_iret (pc := 19) B (nI k) hr (fun H hP => ⟨(), (congrArg (fun z => some (Value.int z)) hE3), hP⟩) (Nat.le_of_ble_eq_true rfl) (Nat.le_of_ble_eq_true rfl) dX7_placeOf_19

def g2_X7_isConsistent (c : Nat → Nat → Int32) (i : Nat) : Nat → Nat → (Nat → Int32 × (Nat → Nat → Int32)) → Int32 × (Nat → Nat → Int32)
  | 0, j, K => K j
  | n + 1, j, K => if (c 114 i) = 2 then (K j) else (if (m_X7_placeOf (zup c 111 12 0) (c 118 ((4 * i) + j))) ≤ (m_X7_placeOf (zup c 111 12 0) (nI i)) then (g2_X7_isConsistent c i n (j + 1) K) else (0, zup c 111 12 0))
def g3_X7_isConsistent (c : Nat → Nat → Int32)  : Nat → Nat → (Nat → Int32 × (Nat → Nat → Int32)) → Int32 × (Nat → Nat → Int32)
  | 0, k, K => K k
  | n + 1, k, K => if (r_X7_in (m_X7_levelAt (zup c 111 12 0) k) 0 1000) = 0 then (0, zup c 111 12 0) else (g3_X7_isConsistent c n (k + 1) K)
def g1_X7_isConsistent (c : Nat → Nat → Int32)  : Nat → Nat → (Nat → Int32 × (Nat → Nat → Int32)) → Int32 × (Nat → Nat → Int32)
  | 0, i, K => K i
  | n + 1, i, K => g2_X7_isConsistent c i (zn (c 120 i)) 0 (fun j => g1_X7_isConsistent c n (i + 1) K)
def m_X7_isConsistent (c : Nat → Nat → Int32) : Int32 × (Nat → Nat → Int32) := g1_X7_isConsistent c (zn (c 111 13)) 0 (fun i => g3_X7_isConsistent c 4 0 (fun k => (1, zup c 111 12 0)))
set_option maxRecDepth 100000 in
set_option maxHeartbeats 400000 in
theorem k_X7_isConsistent (l : Launch) (E : zE) (b : Nat) (c : Nat → Nat → Int32) (w : Nat → Int64) (en : Nat → Nat) (ea : Nat → Nat → Int32) {T : Nat} (hT : T < 2 ^ 30) (hL : zLv T (c 112)) (hO : ∀ x, zn x < zn (c 111 13) → ∃ q, q < 10 ∧ c 121 q = x) (hS : ∀ k, k < zn (c 111 13) → ∀ j, j < zn (c 120 k) → zn (c 118 (4 * k + j)) < zn (c 111 13)) (hg : zG c) : zM l yX7_isConsistent (.code yX7_isConsistent cX7_isConsistent 3 (some .boolean) :: zAll) (zRm 4 0 0) E b [.ref (b + 111)] (zH E b c w en ea) (fun v9 (_ : Unit) => v9 = some (.int (m_X7_isConsistent c).1) ∧ zfr 111 112 111 111 c (m_X7_isConsistent c).2 ∧ zG (m_X7_isConsistent c).2) (fun _ => zH E b ((m_X7_isConsistent c).2) w en ea) 0 0 := by
  refine zM_of "ToneGraphModel" (by decide) rfl rfl (Nat.le_of_ble_eq_true rfl) (L0 := [(0, .ref (b + 111))]) rfl ?_
  intro p e s m args below meth c9 B hr hname
  have hcn : zn (c 111 13) ≤ 10 := hg 111 13
  have hc4 : ∀ k, zn (c 120 k) ≤ 4 := fun k => hg 120 k
  refine zv_aload_n (pc := 0) B 0 rfl dX7_isConsistent_0 ?_
  refine zv_iconst (pc := 1) (v := 0) B rfl dX7_isConsistent_1 ?_
  refine zs_put9 (pc := 2) (f := 12) (F := fun x9 => [.ref (b + 112), .ref (b + 113), .ref (b + 114), .ref (b + 115), .ref (b + 116), .ref (b + 117), .ref (b + 118), .ref (b + 119), .ref (b + 120), .ref (b + 121), .ref (b + 122), .ref (b + 123), .int (x9 12), .int (x9 13), .int (x9 14), .int (x9 15), .int (x9 16), .int (x9 17), .int (x9 18), .int (x9 19), .int (x9 20), .int (x9 21), .int (x9 22), .int (x9 23), .int (x9 24), .long (w 111)]) B zid (by decide) rfl (fun x => z111 x _ _) cl7 inX7 tyX7 tyX7_ok nmX7 (by decide) wf_X7_47 rfl rfl rfl rfl (Nat.le_of_ble_eq_true rfl) (fun _ _ => rfl) dX7_isConsistent_2 ?_
  refine zv_iconst (pc := 5) (v := 0) B rfl dX7_isConsistent_5 ?_
  refine zv_istore_n (pc := 6) (L' := [(1, .int 0), (0, .ref (b + 111))]) B (by decide) rfl dX7_isConsistent_6 ?_
  have loop1 : ∀ (K : Nat → Int32 × (Nat → Nat → Int32)) (n : Nat) (i : Nat), i + n = zn (c 111 13) → g1_X7_isConsistent c n i K = m_X7_isConsistent c → (∀ (i : Nat), i ≤ zn (c 111 13) → K i = m_X7_isConsistent c → zV p l e (zRm 4 0 0) s m args below meth c9 (MQ below (zQ b (fun v9 (_ : Unit) => v9 = some (.int (m_X7_isConsistent c).1) ∧ zfr 111 112 111 111 c (m_X7_isConsistent c).2 ∧ zG (m_X7_isConsistent c).2) (fun _ => zH E b ((m_X7_isConsistent c).2) w en ea)) args s 0 0 (zA b)) 3 b (zH E b (zup c 111 12 0) w en ea) 73 [(0, .ref (b + 111)), (1, .int (nI i))] [] 0 0) → zV p l e (zRm 4 0 0) s m args below meth c9 (MQ below (zQ b (fun v9 (_ : Unit) => v9 = some (.int (m_X7_isConsistent c).1) ∧ zfr 111 112 111 111 c (m_X7_isConsistent c).2 ∧ zG (m_X7_isConsistent c).2) (fun _ => zH E b ((m_X7_isConsistent c).2) w en ea)) args s 0 0 (zA b)) 3 b (zH E b (zup c 111 12 0) w en ea) 7 [(0, .ref (b + 111)), (1, .int (nI i))] [] 0 0 := by
    intro K n
    induction n with
    | zero =>
      intro i hi hE901 hK
      refine zv_iload_n (pc := 7) B 1 rfl dX7_isConsistent_7 ?_
      refine zv_aload_n (pc := 8) B 0 rfl dX7_isConsistent_8 ?_
      refine zv_get (pc := 9) (v := .int ((zup c 111 12 0) 111 13)) B (zat (by decide) (z111 _ _ _)) cl7 inX7 13 (by decide) wf_X7_51 rfl dX7_isConsistent_9 ?_
      refine zv_topi (y := c 111 13) (by rw [zup_k (k := 12) (k' := 13) _ _ (by decide)]) ?_
      refine zv_icmp_ge (pc := 12) (tgt := 73) B dX7_isConsistent_12 rfl (fun _ => ?_) (fun h9 => absurd ((z_le (a := (zn (c 111 13))) (b := i) (zn_eq (c 111 13)) rfl (by have h8 := (show zn _ ≤ 10 from hg 111 13); omega) (by have h8 := (show zn _ ≤ 10 from hg 111 13); omega)).mpr (by have h8 := (show zn _ ≤ 10 from hg 111 13); omega)) h9)
      exact hK i  (by omega) (Eq.trans (by rw [g1_X7_isConsistent]) hE901)
    | succ n ih =>
      intro i hi hE901 hK
      refine zv_iload_n (pc := 7) B 1 rfl dX7_isConsistent_7 ?_
      refine zv_aload_n (pc := 8) B 0 rfl dX7_isConsistent_8 ?_
      refine zv_get (pc := 9) (v := .int ((zup c 111 12 0) 111 13)) B (zat (by decide) (z111 _ _ _)) cl7 inX7 13 (by decide) wf_X7_51 rfl dX7_isConsistent_9 ?_
      refine zv_topi (y := c 111 13) (by rw [zup_k (k := 12) (k' := 13) _ _ (by decide)]) ?_
      refine zv_icmp_ge (pc := 12) (tgt := 73) B dX7_isConsistent_12 rfl (fun h9 => absurd h9 (fun q9 => absurd ((z_le (a := (zn (c 111 13))) (b := i) (zn_eq (c 111 13)) rfl (by have h8 := (show zn _ ≤ 10 from hg 111 13); omega) (by have h8 := (show zn _ ≤ 10 from hg 111 13); omega)).mp q9) (by have h8 := (show zn _ ≤ 10 from hg 111 13); omega))) (fun _ => ?_)
      refine zv_iconst (pc := 15) (v := 0) B rfl dX7_isConsistent_15 ?_
      refine zv_istore_n (pc := 16) (L' := [(2, .int 0), (0, .ref (b + 111)), (1, .int (nI i))]) B (by decide) rfl dX7_isConsistent_16 ?_
      have loop2 : ∀ (K : Nat → Int32 × (Nat → Nat → Int32)) (n : Nat) (j : Nat), j + n = zn (c 120 i) → g2_X7_isConsistent c i n j K = m_X7_isConsistent c → (∀ (j : Nat), j ≤ zn (c 120 i) → K j = m_X7_isConsistent c → zV p l e (zRm 4 0 0) s m args below meth c9 (MQ below (zQ b (fun v9 (_ : Unit) => v9 = some (.int (m_X7_isConsistent c).1) ∧ zfr 111 112 111 111 c (m_X7_isConsistent c).2 ∧ zG (m_X7_isConsistent c).2) (fun _ => zH E b ((m_X7_isConsistent c).2) w en ea)) args s 0 0 (zA b)) 3 b (zH E b (zup c 111 12 0) w en ea) 67 [(0, .ref (b + 111)), (1, .int (nI i)), (2, .int (nI j))] [] 0 0) → zV p l e (zRm 4 0 0) s m args below meth c9 (MQ below (zQ b (fun v9 (_ : Unit) => v9 = some (.int (m_X7_isConsistent c).1) ∧ zfr 111 112 111 111 c (m_X7_isConsistent c).2 ∧ zG (m_X7_isConsistent c).2) (fun _ => zH E b ((m_X7_isConsistent c).2) w en ea)) args s 0 0 (zA b)) 3 b (zH E b (zup c 111 12 0) w en ea) 17 [(0, .ref (b + 111)), (1, .int (nI i)), (2, .int (nI j))] [] 0 0 := by
        intro K n
        induction n with
        | zero =>
          intro j hi hE902 hK
          refine zv_iload_n (pc := 17) B 2 rfl dX7_isConsistent_17 ?_
          refine zv_aload_n (pc := 18) B 0 rfl dX7_isConsistent_18 ?_
          refine zv_get (pc := 19) (v := .ref (b + 120)) B (zat (by decide) (z111 _ _ _)) cl7 inX7 8 (by decide) wf_X7_34 rfl dX7_isConsistent_19 ?_
          refine zv_iload_n (pc := 22) B 1 rfl dX7_isConsistent_22 ?_
          refine zv_iald (pc := 23) (jj := i) B (zat (by decide) (z120 _ _ _)) rfl (by omega) (by decide) dX7_isConsistent_23 ?_
          refine zv_topi (y := c 120 i) (by rw [zup_i (i := 111) (i' := 120) _ _ _ (by decide)]) ?_
          refine zv_icmp_ge (pc := 24) (tgt := 67) B dX7_isConsistent_24 rfl (fun _ => ?_) (fun h9 => absurd ((z_le (a := (zn (c 120 i))) (b := j) (zn_eq (c 120 i)) rfl (by have h8 := (show zn _ ≤ 4 from hg 120 i); omega) (by have h8 := (show zn _ ≤ 4 from hg 120 i); omega)).mpr (by have h8 := (show zn _ ≤ 4 from hg 120 i); omega)) h9)
          exact hK j  (by omega) (Eq.trans (by rw [g2_X7_isConsistent]) hE902)
        | succ n ih =>
          intro j hi hE902 hK
          have hc9 := hc4 i
          refine zv_iload_n (pc := 17) B 2 rfl dX7_isConsistent_17 ?_
          refine zv_aload_n (pc := 18) B 0 rfl dX7_isConsistent_18 ?_
          refine zv_get (pc := 19) (v := .ref (b + 120)) B (zat (by decide) (z111 _ _ _)) cl7 inX7 8 (by decide) wf_X7_34 rfl dX7_isConsistent_19 ?_
          refine zv_iload_n (pc := 22) B 1 rfl dX7_isConsistent_22 ?_
          refine zv_iald (pc := 23) (jj := i) B (zat (by decide) (z120 _ _ _)) rfl (by omega) (by decide) dX7_isConsistent_23 ?_
          refine zv_topi (y := c 120 i) (by rw [zup_i (i := 111) (i' := 120) _ _ _ (by decide)]) ?_
          refine zv_icmp_ge (pc := 24) (tgt := 67) B dX7_isConsistent_24 rfl (fun h9 => absurd h9 (fun q9 => absurd ((z_le (a := (zn (c 120 i))) (b := j) (zn_eq (c 120 i)) rfl (by have h8 := (show zn _ ≤ 4 from hg 120 i); omega) (by have h8 := (show zn _ ≤ 4 from hg 120 i); omega)).mp q9) (by have h8 := (show zn _ ≤ 4 from hg 120 i); omega))) (fun _ => ?_)
          refine zv_aload_n (pc := 27) B 0 rfl dX7_isConsistent_27 ?_
          refine zv_get (pc := 28) (v := .ref (b + 114)) B (zat (by decide) (z111 _ _ _)) cl7 inX7 2 (by decide) wf_X7_16 rfl dX7_isConsistent_28 ?_
          refine zv_iload_n (pc := 31) B 1 rfl dX7_isConsistent_31 ?_
          refine zv_iald (pc := 32) (jj := i) B (zat (by decide) (z114 _ _ _)) rfl (by omega) (by decide) dX7_isConsistent_32 ?_
          refine zv_topi (y := c 114 i) (by rw [zup_i (i := 111) (i' := 114) _ _ _ (by decide)]) ?_
          refine zv_iconst (pc := 33) (v := 2) B rfl dX7_isConsistent_33 ?_
          refine zv_icmp_eq (pc := 34) (tgt := 67) B dX7_isConsistent_34 rfl (fun h5 => ?_) (fun h5 => ?_)
          · exact hK j  (by omega) (Eq.trans (by rw [g2_X7_isConsistent, if_pos h5]) hE902)
          · refine zv_aload_n (pc := 37) B 0 rfl dX7_isConsistent_37 ?_
            refine zv_aload_n (pc := 38) B 0 rfl dX7_isConsistent_38 ?_
            refine zv_get (pc := 39) (v := .ref (b + 118)) B (zat (by decide) (z111 _ _ _)) cl7 inX7 6 (by decide) wf_X7_28 rfl dX7_isConsistent_39 ?_
            refine zv_iconst (pc := 42) (v := 4) B rfl dX7_isConsistent_42 ?_
            refine zv_iload_n (pc := 43) B 1 rfl dX7_isConsistent_43 ?_
            refine zv_imul (pc := 44) B dX7_isConsistent_44 ?_
            refine zv_topi (y := nI (4 * i)) (pk_mul 4 i) ?_
            refine zv_iload_n (pc := 45) B 2 rfl dX7_isConsistent_45 ?_
            refine zv_iadd (pc := 46) B dX7_isConsistent_46 ?_
            refine zv_topi (y := nI ((4 * i) + j)) (nI_add (4 * i) j) ?_
            refine zv_iald (pc := 47) (jj := ((4 * i) + j)) B (zat (by decide) (z118 _ _ _)) rfl (by omega) (by decide) dX7_isConsistent_47 ?_
            refine zv_topi (y := c 118 ((4 * i) + j)) (by rw [zup_i (i := 111) (i' := 118) _ _ _ (by decide)]) ?_
            refine zv_callV (pc := 48) (As := [.int (c 118 ((4 * i) + j))]) (rest := []) B (k_X7_placeOf l E b _ _ _ _  (c 118 ((4 * i) + j)) (by rw [zup_i _ _ _ (by decide)]; exact hO _ (hS i (by omega) j (by omega))) (zG.up hg (show zn _ ≤ zT9 from zn_T _))) (zcwV 1 0 B wm_X7_210 wi_X7_placeOf wv_X7_placeOf wn_X7 wcode_X7_placeOf rfl (by decide +kernel) ⟨(Nat.le_of_ble_eq_true rfl), (Nat.le_of_ble_eq_true rfl)⟩) rfl (zrecv B (zat (by decide) (z111 _ _ _)) cl7) zid rfl (Nat.le_of_ble_eq_true rfl) dX7_isConsistent_48 ⟨(Nat.le_of_ble_eq_true rfl), (Nat.le_of_ble_eq_true rfl)⟩ (fun v9 u9 hv9 => ?_)
            subst hv9
            refine zv_st (st' := [.int (m_X7_placeOf (zup c 111 12 0) (c 118 ((4 * i) + j)))]) rfl ?_
            refine zv_aload_n (pc := 51) B 0 rfl dX7_isConsistent_51 ?_
            refine zv_iload_n (pc := 52) B 1 rfl dX7_isConsistent_52 ?_
            refine zv_callV (pc := 53) (As := [.int (nI i)]) (rest := [.int (m_X7_placeOf (zup c 111 12 0) (c 118 ((4 * i) + j)))]) B (k_X7_placeOf l E b _ _ _ _  (nI i) (by rw [zup_i _ _ _ (by decide)]; exact hO _ (by rw [zn_nI (by omega)]; omega)) (zG.up hg (show zn _ ≤ zT9 from zn_T _))) (zcwV 1 0 B wm_X7_210 wi_X7_placeOf wv_X7_placeOf wn_X7 wcode_X7_placeOf rfl (by decide +kernel) ⟨(Nat.le_of_ble_eq_true rfl), (Nat.le_of_ble_eq_true rfl)⟩) rfl (zrecv B (zat (by decide) (z111 _ _ _)) cl7) zid rfl (Nat.le_of_ble_eq_true rfl) dX7_isConsistent_53 ⟨(Nat.le_of_ble_eq_true rfl), (Nat.le_of_ble_eq_true rfl)⟩ (fun v9 u9 hv9 => ?_)
            subst hv9
            refine zv_st (st' := [.int (m_X7_placeOf (zup c 111 12 0) (nI i)), .int (m_X7_placeOf (zup c 111 12 0) (c 118 ((4 * i) + j)))]) rfl ?_
            refine zv_icmp_le (pc := 56) (tgt := 61) B dX7_isConsistent_56 rfl (fun h6 => ?_) (fun h6 => ?_)
            · refine zv_iinc (pc := 61) (v := nI (j + 1)) (L' := [(2, .int (nI (j + 1))), (0, .ref (b + 111)), (1, .int (nI i))]) B 2 rfl (nI_1 _) (by decide) rfl dX7_isConsistent_61 ?_
              refine zv_goto (pc := 64) (tgt := 17) B rfl dX7_isConsistent_64 ?_
              refine zv_loc (L' := [(0, .ref (b + 111)), (1, .int (nI i)), (2, .int (nI (j + 1)))]) [1, 2, 0] rfl ?_
              exact ih (j + 1)  (by omega) (Eq.trans (by rw [g2_X7_isConsistent, if_neg h5, if_pos h6]) hE902) hK
            · refine zv_iconst (pc := 59) (v := 0) B rfl dX7_isConsistent_59 ?_
              have hE7 : (0, zup c 111 12 0) = m_X7_isConsistent c := (Eq.trans (by rw [g2_X7_isConsistent, if_neg h5, if_neg h6]) hE902)
              exact zv_zret (pc := 60) B (0) rfl hr (fun H hP => ⟨(), ⟨(by rw [(zp2 hE7).1]), (by rw [(zp2 hE7).2]; exact (zfr.up zfr.refl (by omega))), (by rw [(zp2 hE7).2]; exact (zG.up hg (show zn _ ≤ zT9 from zn_T _)))⟩, (by rw [(zp2 hE7).2]; exact hP)⟩) (Nat.le_of_ble_eq_true rfl) (Nat.le_of_ble_eq_true rfl) dX7_isConsistent_60
      refine zv_loc (L' := [(0, .ref (b + 111)), (1, .int (nI i)), (2, .int 0)]) [1, 2, 0] rfl ?_
      refine loop2 (fun j => g1_X7_isConsistent c n (i + 1) K) (zn (c 120 i)) 0  (by omega) (Eq.trans (by rw [g1_X7_isConsistent]) hE901) ?_
      intro j hx
      intro (hE952 : g1_X7_isConsistent c n (i + 1) K = m_X7_isConsistent c)
      refine zv_iinc (pc := 67) (v := nI (i + 1)) (L' := [(1, .int (nI (i + 1))), (0, .ref (b + 111)), (2, .int (nI j))]) B 1 rfl (nI_1 _) (by decide) rfl dX7_isConsistent_67 ?_
      refine zv_goto (pc := 70) (tgt := 7) B rfl dX7_isConsistent_70 ?_
      refine zv_loc (L' := [(0, .ref (b + 111)), (1, .int (nI (i + 1)))]) [1, 0] rfl ?_
      exact ih (i + 1)  (by omega) hE952 hK
  refine zv_loc (L' := [(0, .ref (b + 111)), (1, .int 0)]) [1, 0] rfl ?_
  refine loop1 (fun i => g3_X7_isConsistent c 4 0 (fun k => (1, zup c 111 12 0))) (zn (c 111 13)) 0  (by omega) (by unfold m_X7_isConsistent; rfl) ?_
  intro i hx
  intro (hE951 : g3_X7_isConsistent c 4 0 (fun k => (1, zup c 111 12 0)) = m_X7_isConsistent c)
  refine zv_iconst (pc := 73) (v := 0) B rfl dX7_isConsistent_73 ?_
  refine zv_istore_n (pc := 74) (L' := [(1, .int 0), (0, .ref (b + 111))]) B (by decide) rfl dX7_isConsistent_74 ?_
  have loop3 : ∀ (K : Nat → Int32 × (Nat → Nat → Int32)) (n : Nat) (k : Nat), k + n = 4 → g3_X7_isConsistent c n k K = m_X7_isConsistent c → (∀ (k : Nat), k ≤ 4 → K k = m_X7_isConsistent c → zV p l e (zRm 4 0 0) s m args below meth c9 (MQ below (zQ b (fun v9 (_ : Unit) => v9 = some (.int (m_X7_isConsistent c).1) ∧ zfr 111 112 111 111 c (m_X7_isConsistent c).2 ∧ zG (m_X7_isConsistent c).2) (fun _ => zH E b ((m_X7_isConsistent c).2) w en ea)) args s 0 0 (zA b)) 3 b (zH E b (zup c 111 12 0) w en ea) 103 [(0, .ref (b + 111)), (1, .int (nI k))] [] 0 0) → zV p l e (zRm 4 0 0) s m args below meth c9 (MQ below (zQ b (fun v9 (_ : Unit) => v9 = some (.int (m_X7_isConsistent c).1) ∧ zfr 111 112 111 111 c (m_X7_isConsistent c).2 ∧ zG (m_X7_isConsistent c).2) (fun _ => zH E b ((m_X7_isConsistent c).2) w en ea)) args s 0 0 (zA b)) 3 b (zH E b (zup c 111 12 0) w en ea) 75 [(0, .ref (b + 111)), (1, .int (nI k))] [] 0 0 := by
    intro K n
    induction n with
    | zero =>
      intro k hi hE903 hK
      refine zv_iload_n (pc := 75) B 1 rfl dX7_isConsistent_75 ?_
      refine zv_iconst (pc := 76) (v := 4) B rfl dX7_isConsistent_76 ?_
      refine zv_icmp_ge (pc := 77) (tgt := 103) B dX7_isConsistent_77 rfl (fun _ => ?_) (fun h9 => absurd ((z_le (a := 4) (b := k) rfl rfl (by omega) (by omega)).mpr (by omega)) h9)
      exact hK k  (by omega) (Eq.trans (by rw [g3_X7_isConsistent]) hE903)
    | succ n ih =>
      intro k hi hE903 hK
      refine zv_iload_n (pc := 75) B 1 rfl dX7_isConsistent_75 ?_
      refine zv_iconst (pc := 76) (v := 4) B rfl dX7_isConsistent_76 ?_
      refine zv_icmp_ge (pc := 77) (tgt := 103) B dX7_isConsistent_77 rfl (fun h9 => absurd h9 (fun q9 => absurd ((z_le (a := 4) (b := k) rfl rfl (by omega) (by omega)).mp q9) (by omega))) (fun _ => ?_)
      refine zv_aload_n (pc := 80) B 0 rfl dX7_isConsistent_80 ?_
      refine zv_iload_n (pc := 81) B 1 rfl dX7_isConsistent_81 ?_
      refine zv_callV (pc := 82) (As := [.int (nI k)]) (rest := []) B (k_X7_levelAt l E b _ _ _ _  (by omega) (zLv.z1 (by rw [zup_i _ _ _ (by decide)]; exact hL) hT (by omega)) (zLv.z2 (by rw [zup_i _ _ _ (by decide)]; exact hL) hT (by omega)) (zLv.z3 (by rw [zup_i _ _ _ (by decide)]; exact hL) hT (by omega))) (zcwV 1 3 B wm_X7_149 wi_X7_levelAt wv_X7_levelAt wn_X7 wcode_X7_levelAt rfl (by decide +kernel) ⟨(Nat.le_of_ble_eq_true rfl), (Nat.le_of_ble_eq_true rfl)⟩) rfl (zrecv B (zat (by decide) (z111 _ _ _)) cl7) zid rfl (Nat.le_of_ble_eq_true rfl) dX7_isConsistent_82 ⟨(Nat.le_of_ble_eq_true rfl), (Nat.le_of_ble_eq_true rfl)⟩ (fun v9 u9 hv9 => ?_)
      subst hv9
      refine zv_st (st' := [.int (m_X7_levelAt (zup c 111 12 0) k)]) rfl ?_
      refine zv_iconst (pc := 85) (v := 0) B rfl dX7_isConsistent_85 ?_
      refine zv_sipush (pc := 86) (v := 1000) B rfl dX7_isConsistent_86 ?_
      refine zv_callS (pc := 89) (As := [.int (m_X7_levelAt (zup c 111 12 0) k), .int 0, .int 1000]) (rest := []) B (k_X7_in l E b (m_X7_levelAt (zup c 111 12 0) k) 0 1000) (zcwS 3 0 B wm_X7_94 ws_X7_in wn_X7 wcode_X7_in (by decide +kernel) ⟨(Nat.le_of_ble_eq_true rfl), (Nat.le_of_ble_eq_true rfl)⟩) rfl zid rfl (Nat.le_of_ble_eq_true rfl) dX7_isConsistent_89 ⟨(Nat.le_of_ble_eq_true rfl), (Nat.le_of_ble_eq_true rfl)⟩ (fun v9 u9 hv9 => ?_)
      subst hv9
      refine zv_st (st' := [.int (r_X7_in (m_X7_levelAt (zup c 111 12 0) k) 0 1000)]) rfl ?_
      refine zv_if_ne (pc := 92) (tgt := 97) B dX7_isConsistent_92 rfl (fun h10 => ?_) (fun h10 => ?_)
      · refine zv_iinc (pc := 97) (v := nI (k + 1)) (L' := [(1, .int (nI (k + 1))), (0, .ref (b + 111))]) B 1 rfl (nI_1 _) (by decide) rfl dX7_isConsistent_97 ?_
        refine zv_goto (pc := 100) (tgt := 75) B rfl dX7_isConsistent_100 ?_
        refine zv_loc (L' := [(0, .ref (b + 111)), (1, .int (nI (k + 1)))]) [1, 0] rfl ?_
        exact ih (k + 1)  (by omega) (Eq.trans (by rw [g3_X7_isConsistent, if_neg h10]) hE903) hK
      · refine zv_iconst (pc := 95) (v := 0) B rfl dX7_isConsistent_95 ?_
        have hE11 : (0, zup c 111 12 0) = m_X7_isConsistent c := (Eq.trans (by rw [g3_X7_isConsistent, if_pos h10]) hE903)
        exact zv_zret (pc := 96) B (0) rfl hr (fun H hP => ⟨(), ⟨(by rw [(zp2 hE11).1]), (by rw [(zp2 hE11).2]; exact (zfr.up zfr.refl (by omega))), (by rw [(zp2 hE11).2]; exact (zG.up hg (show zn _ ≤ zT9 from zn_T _)))⟩, (by rw [(zp2 hE11).2]; exact hP)⟩) (Nat.le_of_ble_eq_true rfl) (Nat.le_of_ble_eq_true rfl) dX7_isConsistent_96
  refine zv_loc (L' := [(0, .ref (b + 111)), (1, .int 0)]) [1, 0] rfl ?_
  refine loop3 (fun k => (1, zup c 111 12 0)) 4 0  (by omega) hE951 ?_
  intro k hx
  intro (hE953 : (1, zup c 111 12 0) = m_X7_isConsistent c)
  refine zv_iconst (pc := 103) (v := 1) B rfl dX7_isConsistent_103 ?_
  have hE12 : (1, zup c 111 12 0) = m_X7_isConsistent c := hE953
  exact zv_zret (pc := 104) B (1) rfl hr (fun H hP => ⟨(), ⟨(by rw [(zp2 hE12).1]), (by rw [(zp2 hE12).2]; exact (zfr.up zfr.refl (by omega))), (by rw [(zp2 hE12).2]; exact (zG.up hg (show zn _ ≤ zT9 from zn_T _)))⟩, (by rw [(zp2 hE12).2]; exact hP)⟩) (Nat.le_of_ble_eq_true rfl) (Nat.le_of_ble_eq_true rfl) dX7_isConsistent_104
