def g1_X6_isConsistent (c : Nat → Nat → Int32) (en : Nat → Nat) (ea : Nat → Nat → Int32) (z : Nat)  : Nat → Nat → (Nat → Int32 × (Nat → Nat → Int32) × (Nat → Nat) × (Nat → Nat → Int32)) → Int32 × (Nat → Nat → Int32) × (Nat → Nat) × (Nat → Nat → Int32)
  | 0, i, K => K i
  | n + 1, i, K => if (((m_X6_lookAhead ((m_X6_lookAhead c en ea z 1 108).1) ((m_X6_lookAhead c en ea z 1 108).2.1) ((m_X6_lookAhead c en ea z 1 108).2.2) z 7 109).1) 108 i) = (((m_X6_lookAhead ((m_X6_lookAhead c en ea z 1 108).1) ((m_X6_lookAhead c en ea z 1 108).2.1) ((m_X6_lookAhead c en ea z 1 108).2.2) z 7 109).1) 109 i) then (g1_X6_isConsistent c en ea z n (i + 1) K) else (0, (m_X6_lookAhead ((m_X6_lookAhead c en ea z 1 108).1) ((m_X6_lookAhead c en ea z 1 108).2.1) ((m_X6_lookAhead c en ea z 1 108).2.2) z 7 109).1, (m_X6_lookAhead ((m_X6_lookAhead c en ea z 1 108).1) ((m_X6_lookAhead c en ea z 1 108).2.1) ((m_X6_lookAhead c en ea z 1 108).2.2) z 7 109).2.1, (m_X6_lookAhead ((m_X6_lookAhead c en ea z 1 108).1) ((m_X6_lookAhead c en ea z 1 108).2.1) ((m_X6_lookAhead c en ea z 1 108).2.2) z 7 109).2.2)
def m_X6_isConsistent (c : Nat → Nat → Int32) (en : Nat → Nat) (ea : Nat → Nat → Int32) (z : Nat) : Int32 × (Nat → Nat → Int32) × (Nat → Nat) × (Nat → Nat → Int32) := if (m_X0_isInOrder c) = 0 then (0, c, en, ea) else (if (m_X1_hasLevelsInRange c ea 34) = 0 then (0, c, en, ea) else (g1_X6_isConsistent c en ea z 20 0 (fun i => (1, (m_X6_lookAhead ((m_X6_lookAhead c en ea z 1 108).1) ((m_X6_lookAhead c en ea z 1 108).2.1) ((m_X6_lookAhead c en ea z 1 108).2.2) z 7 109).1, (m_X6_lookAhead ((m_X6_lookAhead c en ea z 1 108).1) ((m_X6_lookAhead c en ea z 1 108).2.1) ((m_X6_lookAhead c en ea z 1 108).2.2) z 7 109).2.1, (m_X6_lookAhead ((m_X6_lookAhead c en ea z 1 108).1) ((m_X6_lookAhead c en ea z 1 108).2.1) ((m_X6_lookAhead c en ea z 1 108).2.2) z 7 109).2.2))))
set_option maxRecDepth 100000 in
set_option maxHeartbeats 600000 in
theorem k_X6_isConsistent (l : Launch) (E : zE) (b : Nat) (c : Nat → Nat → Int32) (w : Nat → Int64) (en : Nat → Nat) (ea : Nat → Nat → Int32)  {z : Nat} (hz20 : z = 20) (hg : zG c) : zM l yX6_isConsistent (.code yX6_isConsistent cX6_isConsistent 2 (some .boolean) :: zAll) (zRm 7 0 0) E b [.ref (b + 0)] (zH E b c w en ea) (fun v9 (_ : Unit) => v9 = some (.int (m_X6_isConsistent c en ea z).1) ∧ zfr 70 106 108 110 c (m_X6_isConsistent c en ea z).2.1 ∧ zG (m_X6_isConsistent c en ea z).2.1) (fun _ => zH E b ((m_X6_isConsistent c en ea z).2.1) w ((m_X6_isConsistent c en ea z).2.2.1) ((m_X6_isConsistent c en ea z).2.2.2)) 0 0 := by
  refine zM_of "ToneGraph" (by decide) rfl rfl (Nat.le_of_ble_eq_true rfl) (L0 := [(0, .ref (b + 0))]) rfl ?_
  intro p e s m args below meth c9 B hr hname
  refine zv_aload_n (pc := 0) B 0 rfl dX6_isConsistent_0 ?_
  refine zv_get (pc := 1) (v := .ref (b + 1)) B (zat (by decide) (z0 _ _ _)) cl6 inX6 0 (by decide) wf_X6_10 rfl dX6_isConsistent_1 ?_
  refine zv_callV (pc := 4) (As := []) (rest := []) B (k_X0_isInOrder l E b _ _ _ _  hg) (zcwV 0 2 B wm_X6_252 wi_X0_isInOrder wv_X0_isInOrder wn_X0 wcode_X0_isInOrder rfl (by decide +kernel) ⟨(Nat.le_of_ble_eq_true rfl), (Nat.le_of_ble_eq_true rfl)⟩) rfl (zrecv B (zat (by decide) (z1 _ _ _)) cl0) zid rfl (Nat.le_of_ble_eq_true rfl) dX6_isConsistent_4 ⟨(Nat.le_of_ble_eq_true rfl), (Nat.le_of_ble_eq_true rfl)⟩ (fun v9 u9 hv9 => ?_)
  subst hv9
  refine zv_st (st' := [.int (m_X0_isInOrder c)]) rfl ?_
  refine zv_if_eq (pc := 7) (tgt := 23) B dX6_isConsistent_7 rfl (fun h1 => ?_) (fun h1 => ?_)
  · refine zv_iconst (pc := 23) (v := 0) B rfl dX6_isConsistent_23 ?_
    have hE2 : (0, c, en, ea) = m_X6_isConsistent c en ea z := (by unfold m_X6_isConsistent; rw [if_pos h1])
    exact zv_zret (pc := 24) B (0) rfl hr (fun H hP => ⟨(), ⟨(by rw [(zp4 hE2).1]), (by rw [(zp4 hE2).2.1]; exact zfr.refl), (by rw [(zp4 hE2).2.1]; exact hg)⟩, (by rw [(zp4 hE2).2.1, (zp4 hE2).2.2.1, (zp4 hE2).2.2.2]; exact hP)⟩) (Nat.le_of_ble_eq_true rfl) (Nat.le_of_ble_eq_true rfl) dX6_isConsistent_24
  · refine zv_aload_n (pc := 10) B 0 rfl dX6_isConsistent_10 ?_
    refine zv_get (pc := 11) (v := .ref (b + 34)) B (zat (by decide) (z0 _ _ _)) cl6 inX6 1 (by decide) wf_X6_21 rfl dX6_isConsistent_11 ?_
    refine zv_get (pc := 14) (v := .ref (b + (34 + 1))) B (zat (zTk.lt (Or.inl rfl) (k := 0) (by decide)) (zt_trk (Or.inl rfl) _ _ _)) cl4 inX4 1 (by decide) wf_X6_170 rfl dX6_isConsistent_14 ?_
    refine zv_callV (pc := 17) (As := []) (rest := []) B (k_X1_hasLevelsInRange l E b _ _ _ _ (Or.inl rfl)) (zcwV 0 1 B wm_X6_256 wi_X1_hasLevelsInRange wv_X1_hasLevelsInRange wn_X1 wcode_X1_hasLevelsInRange rfl (by decide +kernel) ⟨(Nat.le_of_ble_eq_true rfl), (Nat.le_of_ble_eq_true rfl)⟩) rfl (zrecv B (zat (zTk.lt (Or.inl rfl) (by decide)) (zt_chr (Or.inl rfl) _ _ _)) cl1) zid rfl (Nat.le_of_ble_eq_true rfl) dX6_isConsistent_17 ⟨(Nat.le_of_ble_eq_true rfl), (Nat.le_of_ble_eq_true rfl)⟩ (fun v9 u9 hv9 => ?_)
    subst hv9
    refine zv_st (st' := [.int (m_X1_hasLevelsInRange c ea 34)]) rfl ?_
    refine zv_if_ne (pc := 20) (tgt := 25) B dX6_isConsistent_20 rfl (fun h3 => ?_) (fun h3 => ?_)
    · refine zv_aload_n (pc := 25) B 0 rfl dX6_isConsistent_25 ?_
      refine zv_bipush (pc := 26) (v := 20) B rfl dX6_isConsistent_26 ?_
      refine zv_iconst (pc := 28) (v := 1) B rfl dX6_isConsistent_28 ?_
      refine zv_aload_n (pc := 29) B 0 rfl dX6_isConsistent_29 ?_
      refine zv_get (pc := 30) (v := .ref (b + 108)) B (zat (by decide) (z0 _ _ _)) cl6 inX6 4 (by decide) wf_X6_35 rfl dX6_isConsistent_30 ?_
      refine zv_st (st' := [.ref (b + 108), .int (nI 1), .int (nI z), .ref (b + 0)]) (by rw [hz20]; rfl) ?_
      refine zv_callV (pc := 33) (As := [.int (nI z), .int (nI 1), .ref (b + 108)]) (rest := []) B (k_X6_lookAhead (z := z) (y := 1) l E b _ _ _ _  (by omega) (by decide) (Or.inl rfl) hg) (zcwV 3 6 B wm_X6_226 wi_X6_lookAhead wv_X6_lookAhead wn_X6 wcode_X6_lookAhead rfl (by decide +kernel) ⟨(Nat.le_of_ble_eq_true rfl), (Nat.le_of_ble_eq_true rfl)⟩) rfl (zrecv B (zat (by decide) (z0 _ _ _)) cl6) zid rfl (Nat.le_of_ble_eq_true rfl) dX6_isConsistent_33 ⟨(Nat.le_of_ble_eq_true rfl), (Nat.le_of_ble_eq_true rfl)⟩ (fun v9 u9 hv9 => ?_)
      obtain ⟨rfl, hF2004, hg2004⟩ := hv9
      refine zv_st (st' := []) rfl ?_
      refine zv_aload_n (pc := 36) B 0 rfl dX6_isConsistent_36 ?_
      refine zv_bipush (pc := 37) (v := 20) B rfl dX6_isConsistent_37 ?_
      refine zv_bipush (pc := 39) (v := 7) B rfl dX6_isConsistent_39 ?_
      refine zv_aload_n (pc := 41) B 0 rfl dX6_isConsistent_41 ?_
      refine zv_get (pc := 42) (v := .ref (b + 109)) B (zat (by decide) (z0 _ _ _)) cl6 inX6 5 (by decide) wf_X6_39 rfl dX6_isConsistent_42 ?_
      refine zv_st (st' := [.ref (b + 109), .int (nI 7), .int (nI z), .ref (b + 0)]) (by rw [hz20]; rfl) ?_
      refine zv_callV (pc := 45) (As := [.int (nI z), .int (nI 7), .ref (b + 109)]) (rest := []) B (k_X6_lookAhead (z := z) (y := 7) l E b _ _ _ _  (by omega) (by decide) (Or.inr rfl) hg2004) (zcwV 3 6 B wm_X6_226 wi_X6_lookAhead wv_X6_lookAhead wn_X6 wcode_X6_lookAhead rfl (by decide +kernel) ⟨(Nat.le_of_ble_eq_true rfl), (Nat.le_of_ble_eq_true rfl)⟩) rfl (zrecv B (zat (by decide) (z0 _ _ _)) cl6) zid rfl (Nat.le_of_ble_eq_true rfl) dX6_isConsistent_45 ⟨(Nat.le_of_ble_eq_true rfl), (Nat.le_of_ble_eq_true rfl)⟩ (fun v9 u9 hv9 => ?_)
      obtain ⟨rfl, hF2005, hg2005⟩ := hv9
      refine zv_st (st' := []) rfl ?_
      refine zv_iconst (pc := 48) (v := 0) B rfl dX6_isConsistent_48 ?_
      refine zv_istore_n (pc := 49) (L' := [(1, .int 0), (0, .ref (b + 0))]) B (by decide) rfl dX6_isConsistent_49 ?_
      have loop1 : ∀ (K : Nat → Int32 × (Nat → Nat → Int32) × (Nat → Nat) × (Nat → Nat → Int32)) (n : Nat) (i : Nat), i + n = 20 → g1_X6_isConsistent c en ea z n i K = m_X6_isConsistent c en ea z → (∀ (i : Nat), i ≤ 20 → K i = m_X6_isConsistent c en ea z → zV p l e (zRm 7 0 0) s m args below meth c9 (MQ below (zQ b (fun v9 (_ : Unit) => v9 = some (.int (m_X6_isConsistent c en ea z).1) ∧ zfr 70 106 108 110 c (m_X6_isConsistent c en ea z).2.1 ∧ zG (m_X6_isConsistent c en ea z).2.1) (fun _ => zH E b ((m_X6_isConsistent c en ea z).2.1) w ((m_X6_isConsistent c en ea z).2.2.1) ((m_X6_isConsistent c en ea z).2.2.2))) args s 0 0 (zA b)) 2 b (zH E b ((m_X6_lookAhead ((m_X6_lookAhead c en ea z 1 108).1) ((m_X6_lookAhead c en ea z 1 108).2.1) ((m_X6_lookAhead c en ea z 1 108).2.2) z 7 109).1) w ((m_X6_lookAhead ((m_X6_lookAhead c en ea z 1 108).1) ((m_X6_lookAhead c en ea z 1 108).2.1) ((m_X6_lookAhead c en ea z 1 108).2.2) z 7 109).2.1) ((m_X6_lookAhead ((m_X6_lookAhead c en ea z 1 108).1) ((m_X6_lookAhead c en ea z 1 108).2.1) ((m_X6_lookAhead c en ea z 1 108).2.2) z 7 109).2.2)) 79 [(0, .ref (b + 0)), (1, .int (nI i))] [] 0 0) → zV p l e (zRm 7 0 0) s m args below meth c9 (MQ below (zQ b (fun v9 (_ : Unit) => v9 = some (.int (m_X6_isConsistent c en ea z).1) ∧ zfr 70 106 108 110 c (m_X6_isConsistent c en ea z).2.1 ∧ zG (m_X6_isConsistent c en ea z).2.1) (fun _ => zH E b ((m_X6_isConsistent c en ea z).2.1) w ((m_X6_isConsistent c en ea z).2.2.1) ((m_X6_isConsistent c en ea z).2.2.2))) args s 0 0 (zA b)) 2 b (zH E b ((m_X6_lookAhead ((m_X6_lookAhead c en ea z 1 108).1) ((m_X6_lookAhead c en ea z 1 108).2.1) ((m_X6_lookAhead c en ea z 1 108).2.2) z 7 109).1) w ((m_X6_lookAhead ((m_X6_lookAhead c en ea z 1 108).1) ((m_X6_lookAhead c en ea z 1 108).2.1) ((m_X6_lookAhead c en ea z 1 108).2.2) z 7 109).2.1) ((m_X6_lookAhead ((m_X6_lookAhead c en ea z 1 108).1) ((m_X6_lookAhead c en ea z 1 108).2.1) ((m_X6_lookAhead c en ea z 1 108).2.2) z 7 109).2.2)) 50 [(0, .ref (b + 0)), (1, .int (nI i))] [] 0 0 := by
        intro K n
        induction n with
        | zero =>
          intro i hi hE901 hK
          refine zv_iload_n (pc := 50) B 1 rfl dX6_isConsistent_50 ?_
          refine zv_bipush (pc := 51) (v := 20) B rfl dX6_isConsistent_51 ?_
          refine zv_icmp_ge (pc := 53) (tgt := 79) B dX6_isConsistent_53 rfl (fun _ => ?_) (fun h9 => absurd ((z_le (a := 20) (b := i) rfl rfl (by omega) (by omega)).mpr (by omega)) h9)
          exact hK i  (by omega) (Eq.trans (by rw [g1_X6_isConsistent]) hE901)
        | succ n ih =>
          intro i hi hE901 hK
          refine zv_iload_n (pc := 50) B 1 rfl dX6_isConsistent_50 ?_
          refine zv_bipush (pc := 51) (v := 20) B rfl dX6_isConsistent_51 ?_
          refine zv_icmp_ge (pc := 53) (tgt := 79) B dX6_isConsistent_53 rfl (fun h9 => absurd h9 (fun q9 => absurd ((z_le (a := 20) (b := i) rfl rfl (by omega) (by omega)).mp q9) (by omega))) (fun _ => ?_)
          refine zv_aload_n (pc := 56) B 0 rfl dX6_isConsistent_56 ?_
          refine zv_get (pc := 57) (v := .ref (b + 108)) B (zat (by decide) (z0 _ _ _)) cl6 inX6 4 (by decide) wf_X6_35 rfl dX6_isConsistent_57 ?_
          refine zv_iload_n (pc := 60) B 1 rfl dX6_isConsistent_60 ?_
          refine zv_iald (pc := 61) (jj := i) B (zat (by decide) (z108 _ _ _)) rfl (by omega) (by decide) dX6_isConsistent_61 ?_
          refine zv_aload_n (pc := 62) B 0 rfl dX6_isConsistent_62 ?_
          refine zv_get (pc := 63) (v := .ref (b + 109)) B (zat (by decide) (z0 _ _ _)) cl6 inX6 5 (by decide) wf_X6_39 rfl dX6_isConsistent_63 ?_
          refine zv_iload_n (pc := 66) B 1 rfl dX6_isConsistent_66 ?_
          refine zv_iald (pc := 67) (jj := i) B (zat (by decide) (z109 _ _ _)) rfl (by omega) (by decide) dX6_isConsistent_67 ?_
          refine zv_icmp_eq (pc := 68) (tgt := 73) B dX6_isConsistent_68 rfl (fun h8 => ?_) (fun h8 => ?_)
          · refine zv_iinc (pc := 73) (v := nI (i + 1)) (L' := [(1, .int (nI (i + 1))), (0, .ref (b + 0))]) B 1 rfl (nI_1 _) (by decide) rfl dX6_isConsistent_73 ?_
            refine zv_goto (pc := 76) (tgt := 50) B rfl dX6_isConsistent_76 ?_
            refine zv_loc (L' := [(0, .ref (b + 0)), (1, .int (nI (i + 1)))]) [1, 0] rfl ?_
            exact ih (i + 1)  (by omega) (Eq.trans (by rw [g1_X6_isConsistent, if_pos h8]) hE901) hK
          · refine zv_iconst (pc := 71) (v := 0) B rfl dX6_isConsistent_71 ?_
            have hE9 : (0, (m_X6_lookAhead ((m_X6_lookAhead c en ea z 1 108).1) ((m_X6_lookAhead c en ea z 1 108).2.1) ((m_X6_lookAhead c en ea z 1 108).2.2) z 7 109).1, (m_X6_lookAhead ((m_X6_lookAhead c en ea z 1 108).1) ((m_X6_lookAhead c en ea z 1 108).2.1) ((m_X6_lookAhead c en ea z 1 108).2.2) z 7 109).2.1, (m_X6_lookAhead ((m_X6_lookAhead c en ea z 1 108).1) ((m_X6_lookAhead c en ea z 1 108).2.1) ((m_X6_lookAhead c en ea z 1 108).2.2) z 7 109).2.2) = m_X6_isConsistent c en ea z := (Eq.trans (by rw [g1_X6_isConsistent, if_neg h8]) hE901)
            exact zv_zret (pc := 72) B (0) rfl hr (fun H hP => ⟨(), ⟨(by rw [(zp4 hE9).1]), (by rw [(zp4 hE9).2.1]; exact (zfr.call (zfr.call zfr.refl hF2004 (by omega)) hF2005 (by omega))), (by rw [(zp4 hE9).2.1]; exact hg2005)⟩, (by rw [(zp4 hE9).2.1, (zp4 hE9).2.2.1, (zp4 hE9).2.2.2]; exact hP)⟩) (Nat.le_of_ble_eq_true rfl) (Nat.le_of_ble_eq_true rfl) dX6_isConsistent_72
      refine zv_loc (L' := [(0, .ref (b + 0)), (1, .int 0)]) [1, 0] rfl ?_
      refine loop1 (fun i => (1, (m_X6_lookAhead ((m_X6_lookAhead c en ea z 1 108).1) ((m_X6_lookAhead c en ea z 1 108).2.1) ((m_X6_lookAhead c en ea z 1 108).2.2) z 7 109).1, (m_X6_lookAhead ((m_X6_lookAhead c en ea z 1 108).1) ((m_X6_lookAhead c en ea z 1 108).2.1) ((m_X6_lookAhead c en ea z 1 108).2.2) z 7 109).2.1, (m_X6_lookAhead ((m_X6_lookAhead c en ea z 1 108).1) ((m_X6_lookAhead c en ea z 1 108).2.1) ((m_X6_lookAhead c en ea z 1 108).2.2) z 7 109).2.2)) 20 0  (by omega) (by unfold m_X6_isConsistent; rw [if_neg h1, if_neg h3]) ?_
      intro i hx
      intro (hE951 : (1, (m_X6_lookAhead ((m_X6_lookAhead c en ea z 1 108).1) ((m_X6_lookAhead c en ea z 1 108).2.1) ((m_X6_lookAhead c en ea z 1 108).2.2) z 7 109).1, (m_X6_lookAhead ((m_X6_lookAhead c en ea z 1 108).1) ((m_X6_lookAhead c en ea z 1 108).2.1) ((m_X6_lookAhead c en ea z 1 108).2.2) z 7 109).2.1, (m_X6_lookAhead ((m_X6_lookAhead c en ea z 1 108).1) ((m_X6_lookAhead c en ea z 1 108).2.1) ((m_X6_lookAhead c en ea z 1 108).2.2) z 7 109).2.2) = m_X6_isConsistent c en ea z)
      refine zv_iconst (pc := 79) (v := 1) B rfl dX6_isConsistent_79 ?_
      have hE10 : (1, (m_X6_lookAhead ((m_X6_lookAhead c en ea z 1 108).1) ((m_X6_lookAhead c en ea z 1 108).2.1) ((m_X6_lookAhead c en ea z 1 108).2.2) z 7 109).1, (m_X6_lookAhead ((m_X6_lookAhead c en ea z 1 108).1) ((m_X6_lookAhead c en ea z 1 108).2.1) ((m_X6_lookAhead c en ea z 1 108).2.2) z 7 109).2.1, (m_X6_lookAhead ((m_X6_lookAhead c en ea z 1 108).1) ((m_X6_lookAhead c en ea z 1 108).2.1) ((m_X6_lookAhead c en ea z 1 108).2.2) z 7 109).2.2) = m_X6_isConsistent c en ea z := hE951
      exact zv_zret (pc := 80) B (1) rfl hr (fun H hP => ⟨(), ⟨(by rw [(zp4 hE10).1]), (by rw [(zp4 hE10).2.1]; exact (zfr.call (zfr.call zfr.refl hF2004 (by omega)) hF2005 (by omega))), (by rw [(zp4 hE10).2.1]; exact hg2005)⟩, (by rw [(zp4 hE10).2.1, (zp4 hE10).2.2.1, (zp4 hE10).2.2.2]; exact hP)⟩) (Nat.le_of_ble_eq_true rfl) (Nat.le_of_ble_eq_true rfl) dX6_isConsistent_80
    · refine zv_iconst (pc := 23) (v := 0) B rfl dX6_isConsistent_23 ?_
      have hE11 : (0, c, en, ea) = m_X6_isConsistent c en ea z := (by unfold m_X6_isConsistent; rw [if_neg h1, if_pos h3])
      exact zv_zret (pc := 24) B (0) rfl hr (fun H hP => ⟨(), ⟨(by rw [(zp4 hE11).1]), (by rw [(zp4 hE11).2.1]; exact zfr.refl), (by rw [(zp4 hE11).2.1]; exact hg)⟩, (by rw [(zp4 hE11).2.1, (zp4 hE11).2.2.1, (zp4 hE11).2.2.2]; exact hP)⟩) (Nat.le_of_ble_eq_true rfl) (Nat.le_of_ble_eq_true rfl) dX6_isConsistent_24
