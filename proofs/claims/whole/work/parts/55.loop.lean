def zPall (Inv : Nat → (Nat → Nat → Int32) → (Nat → Int64) → (Nat → Nat → Int32) → Prop) : Prop := zP_addGain Inv ∧ zP_addDelay Inv ∧ zP_addFilter Inv ∧ zP_addBus Inv ∧ zP_connect Inv ∧ zP_disconnect Inv ∧ zP_setGain Inv ∧ zP_setOutput Inv ∧ zP_nodes Inv ∧ zP_kindOf Inv ∧ zP_wires Inv ∧ zP_wireFrom Inv ∧ zP_wirePercent Inv ∧ zP_nodeAt Inv ∧ zP_longestBlock Inv ∧ zP_setWave Inv ∧ zP_setEnvelope Inv ∧ zP_begin Inv ∧ zP_end Inv ∧ zP_endAll Inv ∧ zP_sounding Inv ∧ zP_stateOf Inv ∧ zP_keyOf Inv ∧ zP_levelOf Inv ∧ zP_phaseOf Inv ∧ zP_stolen Inv ∧ zP_play Inv ∧ zP_step Inv ∧ zP_ahead Inv ∧ zP_aheadByBlocks Inv ∧ zP_heard Inv ∧ zP_outputOf Inv ∧ zP_time Inv ∧ zP_greatest Inv ∧ zP_energy Inv ∧ zP_meanEnergy Inv ∧ zP_quietShare Inv ∧ zP_isConsistent Inv
theorem zlaw_cmp {i L : Nat} (hi : i < 2 ^ 30) (hL : L < 2 ^ 30) : (nI L - 5 < nI i) ↔ L < i + 5 := by
  have g0 : (0 : Int32) ≤ nI i := (z_le (a := 0) (b := i) rfl rfl (by decide) (by omega)).mpr (Nat.zero_le _)
  by_cases h : 5 ≤ L
  · rw [show nI L - 5 = nI (L - 5) from nI_sub (a := L) (b := 5) h]
    rw [z_lt (a := L - 5) (b := i) rfl rfl (by omega) (by omega)]
    omega
  · constructor
    · intro _; omega
    · intro _
      rcases (show L = 0 ∨ L = 1 ∨ L = 2 ∨ L = 3 ∨ L = 4 by omega) with rfl | rfl | rfl | rfl | rfl
      · exact Int32.lt_of_lt_of_le (show nI 0 - 5 < 0 by decide) g0
      · exact Int32.lt_of_lt_of_le (show nI 1 - 5 < 0 by decide) g0
      · exact Int32.lt_of_lt_of_le (show nI 2 - 5 < 0 by decide) g0
      · exact Int32.lt_of_lt_of_le (show nI 3 - 5 < 0 by decide) g0
      · exact Int32.lt_of_lt_of_le (show nI 4 - 5 < 0 by decide) g0
theorem z63 (x : Int32) : ∃ t : Nat, t < 64 ∧ x &&& 63 = nI t := by
  refine ⟨zn (x &&& 63), ?_, zn_eq _⟩
  show (x &&& 63).toUInt32.toNat < 64
  have e : (x &&& 63).toUInt32 = x.toUInt32 &&& 63 := rfl
  rw [e, UInt32.toNat_and]
  exact Nat.lt_of_le_of_lt Nat.and_le_right (by decide)
theorem znI_toInt {t : Nat} (h : t < 2 ^ 31) : (nI t).toInt = (t : Int) := by
  have h1 := Int32.toInt_ofNat_of_lt (n := t) h
  exact h1
theorem lawz_end {p : Program} {l : Launch} {e : Env} {s : State} {m : MethodId} {below : List Frame} {meth : Method} {c9 : Code} {b : Nat} {E : zE} {q0 : Nat} (B : zC p s m #[Value.ref q0] meth c9 cL_law 9 "ToneGraphLaw" E b) (hr : meth.sig.returnType = ret) (hb0 : s.heap.size = b) {P : Heap → Prop} {LL : List (Nat × Value)} {k n : Nat} (hk : k ≤ 603072) (hn : n ≤ 7215210) : zV p l e room_1 s m #[Value.ref q0] below meth c9 (lw_Z below #[Value.ref q0] s) 9 b P 2107 LL [.int 1] k n := fun H locs ls hP hS hl =>
  va_forget (fun q hq => by have h9 := hS.2.2 q hq; unfold zA at h9; omega) (W.widen hk hn (lw_ret (Drawn.sameBut.refl s.drawn lw_cs) B.1 B.2.1 hr B.2.2.2.2.2.2.1 dL_law_2107))
set_option maxRecDepth 100000 in
set_option maxHeartbeats 1000000 in
theorem law_loop {Inv : Nat → (Nat → Nat → Int32) → (Nat → Int64) → (Nat → Nat → Int32) → Prop} (hok : zInvOK Inv) (hmono : ∀ j c w ea, Inv j c w ea → Inv (j + 1) c w ea) (hPs : zPall Inv) {p : Program} {l : Launch} {e : Env} {s : State} {m : MethodId} {below : List Frame} {meth : Method} {c9 : Code} {b : Nat} {E : zE} {q0 L : Nat} (B : zC p s m #[Value.ref q0] meth c9 cL_law 9 "ToneGraphLaw" E b) (hlf : l.stackTraces = false) {xs : Nat → Int32} (hX : va_X q0 L xs s s.heap) (hbl : q0 < s.heap.size) (hb0 : s.heap.size = b) (hr : meth.sig.returnType = ret) (hL : L ≤ 2560) : ∀ (r j : Nat) (k n : Nat) (c : Nat → Nat → Int32) (w : Nat → Int64) (en : Nat → Nat) (ea : Nat → Nat → Int32), L ≤ 5 * (j + r) + 4 → j ≤ 512 → k + 5 * (512 - j) ≤ 603072 → n + 28 * (512 - j) ≤ 7215210 → Inv j c w ea → zV p l e room_1 s m #[Value.ref q0] below meth c9 (lw_Z below #[Value.ref q0] s) 9 b (zH E b c w en ea) 28 [(0, .ref q0), (1, .ref (b + 0)), (2, .ref (b + 111)), (3, .ref (b + 124)), (4, .ref (b + 125)), (5, .int (nI (5 * j)))] [] k n := by
  obtain ⟨hP0, hP1, hP2, hP3, hP4, hP5, hP6, hP7, hP8, hP9, hP10, hP11, hP12, hP13, hP14, hP15, hP16, hP17, hP18, hP19, hP20, hP21, hP22, hP23, hP24, hP25, hP26, hP27, hP28, hP29, hP30, hP31, hP32, hP33, hP34, hP35, hP36, hP37⟩ := hPs
  intro r
  induction r with
  | zero =>
    intro j k n c w en ea hLr hj hk hn hI
    refine zv_iload (pc := 28) B 5 rfl dL_law_28 ?_
    refine zv_aload_n (pc := 30) B 0 rfl dL_law_30 ?_
    refine zv_slen (pc := 31) B hX hbl hb0 dL_law_31 ?_
    refine zv_iconst (pc := 32) (v := 5) B rfl dL_law_32 ?_
    refine zv_isub (pc := 33) B dL_law_33 ?_
    refine zv_icmp_gt (pc := 34) (tgt := 2106) B dL_law_34 rfl (fun _ => ?_) (fun h9 => absurd ((zlaw_cmp (by omega) (by omega)).mpr (by omega)) h9)
    refine zv_iconst (pc := 2106) (v := 1) B rfl dL_law_2106 ?_
    exact lawz_end B hr hb0 (by omega) (by omega)
  | succ r ih =>
    intro j k n c w en ea hLr hj hk hn hI
    refine zv_iload (pc := 28) B 5 rfl dL_law_28 ?_
    refine zv_aload_n (pc := 30) B 0 rfl dL_law_30 ?_
    refine zv_slen (pc := 31) B hX hbl hb0 dL_law_31 ?_
    refine zv_iconst (pc := 32) (v := 5) B rfl dL_law_32 ?_
    refine zv_isub (pc := 33) B dL_law_33 ?_
    refine zv_icmp_gt (pc := 34) (tgt := 2106) B dL_law_34 rfl (fun h1 => ?_) (fun h1 => ?_)
    · refine zv_iconst (pc := 2106) (v := 1) B rfl dL_law_2106 ?_
      exact lawz_end B hr hb0 (by omega) (by omega)
    have hi : 5 * j + 5 ≤ L := by
      apply Classical.byContradiction
      intro h2
      exact h1 ((zlaw_cmp (by omega) (by omega)).mpr (by omega))
    have nx : ∀ (c' : Nat → Nat → Int32) (w' : Nat → Int64) (en' : Nat → Nat) (ea' : Nat → Nat → Int32), Inv (j + 1) c' w' ea' → zV p l e room_1 s m #[Value.ref q0] below meth c9 (lw_Z below #[Value.ref q0] s) 9 b (zH E b c' w' en' ea') 2100 [(0, .ref q0), (1, .ref (b + 0)), (2, .ref (b + 111)), (3, .ref (b + 124)), (4, .ref (b + 125)), (5, .int (nI (5 * j)))] [] (k + 5) (n + 28) := by
      intro c' w' en' ea' hI'
      refine zv_iinc (pc := 2100) (v := nI (5 * j) + 5) (L' := [(5, .int (nI (5 * j) + 5)), (0, .ref q0), (1, .ref (b + 0)), (2, .ref (b + 111)), (3, .ref (b + 124)), (4, .ref (b + 125))]) B 5 rfl rfl (by decide) rfl dL_law_2100 ?_
      refine zv_goto (pc := 2103) (tgt := 28) B rfl dL_law_2103 ?_
      refine zv_L (L' := [(5, .int (nI (5 * (j + 1)))), (0, .ref q0), (1, .ref (b + 0)), (2, .ref (b + 111)), (3, .ref (b + 124)), (4, .ref (b + 125))]) (by rw [show nI (5 * j) + 5 = nI (5 * (j + 1)) from nI_add (5 * j) 5]) ?_
      refine zv_loc (L' := [(0, .ref q0), (1, .ref (b + 0)), (2, .ref (b + 111)), (3, .ref (b + 124)), (4, .ref (b + 125)), (5, .int (nI (5 * (j + 1))))]) [1, 2, 3, 4, 5, 0] rfl ?_
      exact ih (j + 1) (k + 5) (n + 28) c' w' en' ea' (by omega) (by omega) (by omega) (by omega) hI'
    refine zv_aload_n (pc := 37) B 0 rfl dL_law_37 ?_
    refine zv_iload (pc := 38) B 5 rfl dL_law_38 ?_
    refine zv_sld (pc := 40) (jj := 5 * j) B hX hbl hb0 rfl (by omega) (by omega) dL_law_40 ?_
    refine zv_bipush (pc := 41) (v := 63) B rfl dL_law_41 ?_
    refine zv_iand (pc := 43) B dL_law_43 ?_
    obtain ⟨t, ht64, ht⟩ := z63 (xs (5 * j))
    rcases (show t = 0 ∨ t = 1 ∨ t = 2 ∨ t = 3 ∨ t = 4 ∨ t = 5 ∨ t = 6 ∨ t = 7 ∨ t = 8 ∨ t = 9 ∨ t = 10 ∨ t = 11 ∨ t = 12 ∨ t = 13 ∨ t = 14 ∨ t = 15 ∨ t = 16 ∨ t = 17 ∨ t = 18 ∨ t = 19 ∨ t = 20 ∨ t = 21 ∨ t = 22 ∨ t = 23 ∨ t = 24 ∨ t = 25 ∨ t = 26 ∨ t = 27 ∨ t = 28 ∨ t = 29 ∨ t = 30 ∨ t = 31 ∨ t = 32 ∨ t = 33 ∨ t = 34 ∨ t = 35 ∨ t = 36 ∨ t = 37 ∨ 38 ≤ t by omega) with rfl | rfl | rfl | rfl | rfl | rfl | rfl | rfl | rfl | rfl | rfl | rfl | rfl | rfl | rfl | rfl | rfl | rfl | rfl | rfl | rfl | rfl | rfl | rfl | rfl | rfl | rfl | rfl | rfl | rfl | rfl | rfl | rfl | rfl | rfl | rfl | rfl | rfl | ht38
    · refine zv_topi (y := nI 0) ht ?_
      refine zv_tblIn (pc := 44) (off := 168) (tgt := 212) B dL_law_44 (by decide) (by decide) rfl rfl ?_
      exact law_addGain hok hP0 B hlf hX hbl hb0 (by omega) (by omega) (by omega) (by omega) hI (by omega) nx
    · refine zv_topi (y := nI 1) ht ?_
      refine zv_tblIn (pc := 44) (off := 224) (tgt := 268) B dL_law_44 (by decide) (by decide) rfl rfl ?_
      exact law_addDelay hok hP1 B hlf hX hbl hb0 (by omega) (by omega) (by omega) (by omega) hI (by omega) nx
    · refine zv_topi (y := nI 2) ht ?_
      refine zv_tblIn (pc := 44) (off := 292) (tgt := 336) B dL_law_44 (by decide) (by decide) rfl rfl ?_
      exact law_addFilter hok hP2 B hlf hX hbl hb0 (by omega) (by omega) (by omega) (by omega) hI (by omega) nx
    · refine zv_topi (y := nI 3) ht ?_
      refine zv_tblIn (pc := 44) (off := 372) (tgt := 416) B dL_law_44 (by decide) (by decide) rfl rfl ?_
      exact law_addBus hok hP3 B hlf hX hbl hb0 (by omega) (by omega) (by omega) (by omega) hI (by omega) nx
    · refine zv_topi (y := nI 4) ht ?_
      refine zv_tblIn (pc := 44) (off := 428) (tgt := 472) B dL_law_44 (by decide) (by decide) rfl rfl ?_
      exact law_connect hok hP4 B hlf hX hbl hb0 (by omega) (by omega) (by omega) (by omega) hI (by omega) nx
    · refine zv_topi (y := nI 5) ht ?_
      refine zv_tblIn (pc := 44) (off := 508) (tgt := 552) B dL_law_44 (by decide) (by decide) rfl rfl ?_
      exact law_disconnect hok hP5 B hlf hX hbl hb0 (by omega) (by omega) (by omega) (by omega) hI (by omega) nx
    · refine zv_topi (y := nI 6) ht ?_
      refine zv_tblIn (pc := 44) (off := 576) (tgt := 620) B dL_law_44 (by decide) (by decide) rfl rfl ?_
      exact law_setGain hok hP6 B hlf hX hbl hb0 (by omega) (by omega) (by omega) (by omega) hI (by omega) nx
    · refine zv_topi (y := nI 7) ht ?_
      refine zv_tblIn (pc := 44) (off := 644) (tgt := 688) B dL_law_44 (by decide) (by decide) rfl rfl ?_
      exact law_setOutput hok hP7 B hlf hX hbl hb0 (by omega) (by omega) (by omega) (by omega) hI (by omega) nx
    · refine zv_topi (y := nI 8) ht ?_
      refine zv_tblIn (pc := 44) (off := 700) (tgt := 744) B dL_law_44 (by decide) (by decide) rfl rfl ?_
      exact law_nodes hok hP8 B hlf hX hbl hb0 (by omega) (by omega) (by omega) (by omega) hI (by omega) nx
    · refine zv_topi (y := nI 9) ht ?_
      refine zv_tblIn (pc := 44) (off := 713) (tgt := 757) B dL_law_44 (by decide) (by decide) rfl rfl ?_
      exact law_kindOf hok hP9 B hlf hX hbl hb0 (by omega) (by omega) (by omega) (by omega) hI (by omega) nx
    · refine zv_topi (y := nI 10) ht ?_
      refine zv_tblIn (pc := 44) (off := 769) (tgt := 813) B dL_law_44 (by decide) (by decide) rfl rfl ?_
      exact law_wires hok hP10 B hlf hX hbl hb0 (by omega) (by omega) (by omega) (by omega) hI (by omega) nx
    · refine zv_topi (y := nI 11) ht ?_
      refine zv_tblIn (pc := 44) (off := 825) (tgt := 869) B dL_law_44 (by decide) (by decide) rfl rfl ?_
      exact law_wireFrom hok hP11 B hlf hX hbl hb0 (by omega) (by omega) (by omega) (by omega) hI (by omega) nx
    · refine zv_topi (y := nI 12) ht ?_
      refine zv_tblIn (pc := 44) (off := 893) (tgt := 937) B dL_law_44 (by decide) (by decide) rfl rfl ?_
      exact law_wirePercent hok hP12 B hlf hX hbl hb0 (by omega) (by omega) (by omega) (by omega) hI (by omega) nx
    · refine zv_topi (y := nI 13) ht ?_
      refine zv_tblIn (pc := 44) (off := 961) (tgt := 1005) B dL_law_44 (by decide) (by decide) rfl rfl ?_
      exact law_nodeAt hok hP13 B hlf hX hbl hb0 (by omega) (by omega) (by omega) (by omega) hI (by omega) nx
    · refine zv_topi (y := nI 14) ht ?_
      refine zv_tblIn (pc := 44) (off := 1017) (tgt := 1061) B dL_law_44 (by decide) (by decide) rfl rfl ?_
      exact law_longestBlock hok hP14 B hlf hX hbl hb0 (by omega) (by omega) (by omega) (by omega) hI (by omega) nx
    · refine zv_topi (y := nI 15) ht ?_
      refine zv_tblIn (pc := 44) (off := 1030) (tgt := 1074) B dL_law_44 (by decide) (by decide) rfl rfl ?_
      exact law_setWave hok hP15 B hlf hX hbl hb0 (by omega) (by omega) (by omega) (by omega) hI (by omega) nx
    · refine zv_topi (y := nI 16) ht ?_
      refine zv_tblIn (pc := 44) (off := 1088) (tgt := 1132) B dL_law_44 (by decide) (by decide) rfl rfl ?_
      exact law_setEnvelope hok hP16 B hlf hX hbl hb0 (by omega) (by omega) (by omega) (by omega) hI (by omega) nx
    · refine zv_topi (y := nI 17) ht ?_
      refine zv_tblIn (pc := 44) (off := 1180) (tgt := 1224) B dL_law_44 (by decide) (by decide) rfl rfl ?_
      exact law_begin hok hP17 B hlf hX hbl hb0 (by omega) (by omega) (by omega) (by omega) hI (by omega) nx
    · refine zv_topi (y := nI 18) ht ?_
      refine zv_tblIn (pc := 44) (off := 1248) (tgt := 1292) B dL_law_44 (by decide) (by decide) rfl rfl ?_
      exact law_end hok hP18 B hlf hX hbl hb0 (by omega) (by omega) (by omega) (by omega) hI (by omega) nx
    · refine zv_topi (y := nI 19) ht ?_
      refine zv_tblIn (pc := 44) (off := 1304) (tgt := 1348) B dL_law_44 (by decide) (by decide) rfl rfl ?_
      exact law_endAll hok hP19 B hlf hX hbl hb0 (by omega) (by omega) (by omega) (by omega) hI (by omega) nx
    · refine zv_topi (y := nI 20) ht ?_
      refine zv_tblIn (pc := 44) (off := 1317) (tgt := 1361) B dL_law_44 (by decide) (by decide) rfl rfl ?_
      exact law_sounding hok hP20 B hlf hX hbl hb0 (by omega) (by omega) (by omega) (by omega) hI (by omega) nx
    · refine zv_topi (y := nI 21) ht ?_
      refine zv_tblIn (pc := 44) (off := 1330) (tgt := 1374) B dL_law_44 (by decide) (by decide) rfl rfl ?_
      exact law_stateOf hok hP21 B hlf hX hbl hb0 (by omega) (by omega) (by omega) (by omega) hI (by omega) nx
    · refine zv_topi (y := nI 22) ht ?_
      refine zv_tblIn (pc := 44) (off := 1386) (tgt := 1430) B dL_law_44 (by decide) (by decide) rfl rfl ?_
      exact law_keyOf hok hP22 B hlf hX hbl hb0 (by omega) (by omega) (by omega) (by omega) hI (by omega) nx
    · refine zv_topi (y := nI 23) ht ?_
      refine zv_tblIn (pc := 44) (off := 1442) (tgt := 1486) B dL_law_44 (by decide) (by decide) rfl rfl ?_
      exact law_levelOf hok hP23 B hlf hX hbl hb0 (by omega) (by omega) (by omega) (by omega) hI (by omega) nx
    · refine zv_topi (y := nI 24) ht ?_
      refine zv_tblIn (pc := 44) (off := 1498) (tgt := 1542) B dL_law_44 (by decide) (by decide) rfl rfl ?_
      exact law_phaseOf hok hP24 B hlf hX hbl hb0 (by omega) (by omega) (by omega) (by omega) hI (by omega) nx
    · refine zv_topi (y := nI 25) ht ?_
      refine zv_tblIn (pc := 44) (off := 1554) (tgt := 1598) B dL_law_44 (by decide) (by decide) rfl rfl ?_
      exact law_stolen hok hP25 B hlf hX hbl hb0 (by omega) (by omega) (by omega) (by omega) hI (by omega) nx
    · refine zv_topi (y := nI 26) ht ?_
      refine zv_tblIn (pc := 44) (off := 1567) (tgt := 1611) B dL_law_44 (by decide) (by decide) rfl rfl ?_
      exact law_play hok hP26 B hlf hX hbl hb0 (by omega) (by omega) (by omega) (by omega) hI (by omega) nx
    · refine zv_topi (y := nI 27) ht ?_
      refine zv_tblIn (pc := 44) (off := 1623) (tgt := 1667) B dL_law_44 (by decide) (by decide) rfl rfl ?_
      exact law_step hok hP27 B hlf hX hbl hb0 (by omega) (by omega) (by omega) (by omega) hI (by omega) nx
    · refine zv_topi (y := nI 28) ht ?_
      refine zv_tblIn (pc := 44) (off := 1636) (tgt := 1680) B dL_law_44 (by decide) (by decide) rfl rfl ?_
      exact law_ahead hok hP28 B hlf hX hbl hb0 (by omega) (by omega) (by omega) (by omega) hI (by omega) nx
    · refine zv_topi (y := nI 29) ht ?_
      refine zv_tblIn (pc := 44) (off := 1692) (tgt := 1736) B dL_law_44 (by decide) (by decide) rfl rfl ?_
      exact law_aheadByBlocks hok hP29 B hlf hX hbl hb0 (by omega) (by omega) (by omega) (by omega) hI (by omega) nx
    · refine zv_topi (y := nI 30) ht ?_
      refine zv_tblIn (pc := 44) (off := 1760) (tgt := 1804) B dL_law_44 (by decide) (by decide) rfl rfl ?_
      exact law_heard hok hP30 B hlf hX hbl hb0 (by omega) (by omega) (by omega) (by omega) hI (by omega) nx
    · refine zv_topi (y := nI 31) ht ?_
      refine zv_tblIn (pc := 44) (off := 1816) (tgt := 1860) B dL_law_44 (by decide) (by decide) rfl rfl ?_
      exact law_outputOf hok hP31 B hlf hX hbl hb0 (by omega) (by omega) (by omega) (by omega) hI (by omega) nx
    · refine zv_topi (y := nI 32) ht ?_
      refine zv_tblIn (pc := 44) (off := 1872) (tgt := 1916) B dL_law_44 (by decide) (by decide) rfl rfl ?_
      exact law_time hok hP32 B hlf hX hbl hb0 (by omega) (by omega) (by omega) (by omega) hI (by omega) nx
    · refine zv_topi (y := nI 33) ht ?_
      refine zv_tblIn (pc := 44) (off := 1885) (tgt := 1929) B dL_law_44 (by decide) (by decide) rfl rfl ?_
      exact law_greatest hok hP33 B hlf hX hbl hb0 (by omega) (by omega) (by omega) (by omega) hI (by omega) nx
    · refine zv_topi (y := nI 34) ht ?_
      refine zv_tblIn (pc := 44) (off := 1898) (tgt := 1942) B dL_law_44 (by decide) (by decide) rfl rfl ?_
      exact law_energy hok hP34 B hlf hX hbl hb0 (by omega) (by omega) (by omega) (by omega) hI (by omega) nx
    · refine zv_topi (y := nI 35) ht ?_
      refine zv_tblIn (pc := 44) (off := 1912) (tgt := 1956) B dL_law_44 (by decide) (by decide) rfl rfl ?_
      exact law_meanEnergy hok hP35 B hlf hX hbl hb0 (by omega) (by omega) (by omega) (by omega) hI (by omega) nx
    · refine zv_topi (y := nI 36) ht ?_
      refine zv_tblIn (pc := 44) (off := 1977) (tgt := 2021) B dL_law_44 (by decide) (by decide) rfl rfl ?_
      exact law_quietShare hok hP36 B hlf hX hbl hb0 (by omega) (by omega) (by omega) (by omega) hI (by omega) nx
    · refine zv_topi (y := nI 37) ht ?_
      refine zv_tblIn (pc := 44) (off := 2043) (tgt := 2087) B dL_law_44 (by decide) (by decide) rfl rfl ?_
      exact law_isConsistent hok hP37 B hlf hX hbl hb0 (by omega) (by omega) (by omega) (by omega) hI (by omega) nx
    · refine zv_topi (y := nI t) ht ?_
      refine zv_tblOut (pc := 44) (tgt := 2100) B dL_law_44 (Or.inr (by rw [znI_toInt (by omega)]; omega)) rfl ?_
      exact zv_widen (Nat.le_add_right _ _) (Nat.le_add_right _ _) (nx c w en ea (hmono j c w ea hI))