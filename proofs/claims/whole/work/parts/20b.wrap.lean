def w_L_addGain (c : Nat → Nat → Int32) (w : Nat → Int64) (x : Int32) : Int32 × (Nat → Nat → Int32) × (Nat → Int64) := match m_X6_addGain c x with
  | .inl X9 => (nI (lcd ["java/lang/IllegalArgumentException", "java/lang/IllegalStateException"] X9), c, w)
  | .inr u9 => (0, u9.2, va_up w 124 (u9.1).toInt64)
set_option maxRecDepth 100000 in
set_option maxHeartbeats 300000 in
theorem k_L_addGain (l : Launch) (E : zE) (b : Nat) (c : Nat → Nat → Int32) (w : Nat → Int64) (en : Nat → Nat) (ea : Nat → Nat → Int32) (x : Int32) (hg : zG c) (hlf : l.stackTraces = false) : zM l yL_addGain (.codeWith yL_addGain cL_addGain 4 (some .int) [(0, 9, 12, 13), (0, 9, 15, 15)] :: zAll) (zRm 8 2 12) E b [.ref (b + 0), .int x, .ref (b + 124)] (zH E b c w en ea) (fun v9 (_ : Unit) => v9 = some (.int (w_L_addGain c w x).1) ∧ zG (w_L_addGain c w x).2.1 ∧ zfr 1 34 1 1 c (w_L_addGain c w x).2.1) (fun _ => zH E b ((w_L_addGain c w x).2.1) ((w_L_addGain c w x).2.2) en ea) 2 12 := by
  refine zM_ofW "ToneGraphLaw" (by decide) rfl rfl (Nat.le_of_ble_eq_true rfl) (L0 := [(0, .ref (b + 0)), (1, .int x), (2, .ref (b + 124))]) rfl ?_
  intro p e s m args below meth c9 B hr hT
  refine zv_aload_n (pc := 0) B 2 rfl dL_addGain_0 ?_
  refine zv_iconst (pc := 1) (v := 0) B rfl dL_addGain_1 ?_
  refine zv_aload_n (pc := 2) B 0 rfl dL_addGain_2 ?_
  refine zv_iload_n (pc := 3) B 1 rfl dL_addGain_3 ?_
  refine zv_callVX (pc := 4) (As := [.int x]) (rest := [.int 0, .ref (b + 124)]) B (k_X6_addGain l E b _ _ _ _  x hg hlf) (zcwV 1 7 B wm_L_7 wi_X6_addGain wv_X6_addGain wn_X6 wcode_X6_addGain rfl (by decide +kernel) ⟨(Nat.le_of_ble_eq_true rfl), (Nat.le_of_ble_eq_true rfl)⟩) rfl (zrecv B (zat (by decide) (z0 _ _ _)) cl6) zid rfl (Nat.le_of_ble_eq_true rfl) dL_addGain_4 ⟨(Nat.le_of_ble_eq_true rfl), (Nat.le_of_ble_eq_true rfl)⟩ (fun X9 hX9 => ?_) (fun v9 u9 hv9 => ?_)
  · rcases xl_addGain hX9 with rfl | rfl
    · have hW : (w_L_addGain c w x) = (1, c, w) := by unfold w_L_addGain; rw [hX9]; show (nI (lcd _ _), _) = _; rw [lcd_h]; rfl
      refine zx_catch (nm := "java/lang/IllegalArgumentException") B [] ⟨0, 9, 12, 13⟩ [⟨0, 9, 15, 15⟩] hT (fun z hz => by cases hz) (by decide) (by decide) wc_L_13 (by decide +kernel) (fun q9 => ?_)
      refine zv_astore_n (pc := 12) (L' := [(3, .ref q9), (0, .ref (b + 0)), (1, .int x), (2, .ref (b + 124))]) B (by decide) rfl dL_addGain_12 ?_
      refine zv_iconst (pc := 13) (v := 1) B rfl dL_addGain_13 ?_
      exact zv_iret (pc := 14) B (1) hr (fun H hP => ⟨(), ⟨(by rw [hW]), (by rw [hW]; exact hg), (by rw [hW]; exact zfr.refl)⟩, (by rw [hW]; exact hP)⟩) (Nat.le_of_ble_eq_true rfl) (Nat.le_of_ble_eq_true rfl) dL_addGain_14
    · have hW : (w_L_addGain c w x) = (2, c, w) := by unfold w_L_addGain; rw [hX9]; show (nI (lcd _ _), _) = _; rw [lcd_s (by decide +kernel), lcd_h]; rfl
      refine zx_catch (nm := "java/lang/IllegalStateException") B [⟨0, 9, 12, 13⟩] ⟨0, 9, 15, 15⟩ [] hT (fun z hz => by rcases List.mem_cons.mp hz with rfl | hz; exact ⟨by decide, _, wc_L_13, by decide +kernel⟩; cases hz) (by decide) (by decide) wc_L_15 (by decide +kernel) (fun q9 => ?_)
      refine zv_astore_n (pc := 15) (L' := [(3, .ref q9), (0, .ref (b + 0)), (1, .int x), (2, .ref (b + 124))]) B (by decide) rfl dL_addGain_15 ?_
      refine zv_iconst (pc := 16) (v := 2) B rfl dL_addGain_16 ?_
      exact zv_iret (pc := 17) B (2) hr (fun H hP => ⟨(), ⟨(by rw [hW]), (by rw [hW]; exact hg), (by rw [hW]; exact zfr.refl)⟩, (by rw [hW]; exact hP)⟩) (Nat.le_of_ble_eq_true rfl) (Nat.le_of_ble_eq_true rfl) dL_addGain_17
  · obtain ⟨hu, rfl, hF, hg9⟩ := hv9
    refine zv_st (st' := [.int u9.1, .int 0, .ref (b + 124)]) rfl ?_
    have hW : (w_L_addGain c w x) = (0, u9.2, va_up w 124 (u9.1).toInt64) := by unfold w_L_addGain; rw [hu]
    refine zv_i2l (pc := 7) B dL_addGain_7 ?_
    refine zs_last (pc := 8) B zid rfl dL_addGain_8 ?_
    refine zv_goto (pc := 9) (tgt := 18) B rfl dL_addGain_9 ?_
    refine zv_iconst (pc := 18) (v := 0) B rfl dL_addGain_18 ?_
    exact zv_iret (pc := 19) B (0) hr (fun H hP => ⟨(), ⟨(by rw [hW]), (by rw [hW]; exact hg9), (by rw [hW]; exact hF)⟩, (by rw [hW]; exact hP)⟩) (Nat.le_of_ble_eq_true rfl) (Nat.le_of_ble_eq_true rfl) dL_addGain_19
def w_L_addDelay (c : Nat → Nat → Int32) (w : Nat → Int64) (x : Int32) (y : Int32) : Int32 × (Nat → Nat → Int32) × (Nat → Int64) := match m_X6_addDelay c x y with
  | .inl X9 => (nI (lcd ["java/lang/IllegalArgumentException", "java/lang/IllegalStateException"] X9), c, w)
  | .inr u9 => (0, u9.2, va_up w 124 (u9.1).toInt64)
set_option maxRecDepth 100000 in
set_option maxHeartbeats 300000 in
theorem k_L_addDelay (l : Launch) (E : zE) (b : Nat) (c : Nat → Nat → Int32) (w : Nat → Int64) (en : Nat → Nat) (ea : Nat → Nat → Int32) (x : Int32) (y : Int32) (hg : zG c) (hlf : l.stackTraces = false) : zM l yL_addDelay (.codeWith yL_addDelay cL_addDelay 5 (some .int) [(0, 10, 13, 13), (0, 10, 17, 15)] :: zAll) (zRm 8 3 18) E b [.ref (b + 0), .int x, .int y, .ref (b + 124)] (zH E b c w en ea) (fun v9 (_ : Unit) => v9 = some (.int (w_L_addDelay c w x y).1) ∧ zG (w_L_addDelay c w x y).2.1 ∧ zfr 1 34 1 1 c (w_L_addDelay c w x y).2.1) (fun _ => zH E b ((w_L_addDelay c w x y).2.1) ((w_L_addDelay c w x y).2.2) en ea) 3 18 := by
  refine zM_ofW "ToneGraphLaw" (by decide) rfl rfl (Nat.le_of_ble_eq_true rfl) (L0 := [(0, .ref (b + 0)), (1, .int x), (2, .int y), (3, .ref (b + 124))]) rfl ?_
  intro p e s m args below meth c9 B hr hT
  refine zv_aload_n (pc := 0) B 3 rfl dL_addDelay_0 ?_
  refine zv_iconst (pc := 1) (v := 0) B rfl dL_addDelay_1 ?_
  refine zv_aload_n (pc := 2) B 0 rfl dL_addDelay_2 ?_
  refine zv_iload_n (pc := 3) B 1 rfl dL_addDelay_3 ?_
  refine zv_iload_n (pc := 4) B 2 rfl dL_addDelay_4 ?_
  refine zv_callVX (pc := 5) (As := [.int x, .int y]) (rest := [.int 0, .ref (b + 124)]) B (k_X6_addDelay l E b _ _ _ _  x y hg hlf) (zcwV 2 7 B wm_L_17 wi_X6_addDelay wv_X6_addDelay wn_X6 wcode_X6_addDelay rfl (by decide +kernel) ⟨(Nat.le_of_ble_eq_true rfl), (Nat.le_of_ble_eq_true rfl)⟩) rfl (zrecv B (zat (by decide) (z0 _ _ _)) cl6) zid rfl (Nat.le_of_ble_eq_true rfl) dL_addDelay_5 ⟨(Nat.le_of_ble_eq_true rfl), (Nat.le_of_ble_eq_true rfl)⟩ (fun X9 hX9 => ?_) (fun v9 u9 hv9 => ?_)
  · rcases xl_addDelay hX9 with rfl | rfl
    · have hW : (w_L_addDelay c w x y) = (1, c, w) := by unfold w_L_addDelay; rw [hX9]; show (nI (lcd _ _), _) = _; rw [lcd_h]; rfl
      refine zx_catch (nm := "java/lang/IllegalArgumentException") B [] ⟨0, 10, 13, 13⟩ [⟨0, 10, 17, 15⟩] hT (fun z hz => by cases hz) (by decide) (by decide) wc_L_13 (by decide +kernel) (fun q9 => ?_)
      refine zv_astore (pc := 13) (L' := [(4, .ref q9), (0, .ref (b + 0)), (1, .int x), (2, .int y), (3, .ref (b + 124))]) B (by decide) rfl dL_addDelay_13 ?_
      refine zv_iconst (pc := 15) (v := 1) B rfl dL_addDelay_15 ?_
      exact zv_iret (pc := 16) B (1) hr (fun H hP => ⟨(), ⟨(by rw [hW]), (by rw [hW]; exact hg), (by rw [hW]; exact zfr.refl)⟩, (by rw [hW]; exact hP)⟩) (Nat.le_of_ble_eq_true rfl) (Nat.le_of_ble_eq_true rfl) dL_addDelay_16
    · have hW : (w_L_addDelay c w x y) = (2, c, w) := by unfold w_L_addDelay; rw [hX9]; show (nI (lcd _ _), _) = _; rw [lcd_s (by decide +kernel), lcd_h]; rfl
      refine zx_catch (nm := "java/lang/IllegalStateException") B [⟨0, 10, 13, 13⟩] ⟨0, 10, 17, 15⟩ [] hT (fun z hz => by rcases List.mem_cons.mp hz with rfl | hz; exact ⟨by decide, _, wc_L_13, by decide +kernel⟩; cases hz) (by decide) (by decide) wc_L_15 (by decide +kernel) (fun q9 => ?_)
      refine zv_astore (pc := 17) (L' := [(4, .ref q9), (0, .ref (b + 0)), (1, .int x), (2, .int y), (3, .ref (b + 124))]) B (by decide) rfl dL_addDelay_17 ?_
      refine zv_iconst (pc := 19) (v := 2) B rfl dL_addDelay_19 ?_
      exact zv_iret (pc := 20) B (2) hr (fun H hP => ⟨(), ⟨(by rw [hW]), (by rw [hW]; exact hg), (by rw [hW]; exact zfr.refl)⟩, (by rw [hW]; exact hP)⟩) (Nat.le_of_ble_eq_true rfl) (Nat.le_of_ble_eq_true rfl) dL_addDelay_20
  · obtain ⟨hu, rfl, hF, hg9⟩ := hv9
    refine zv_st (st' := [.int u9.1, .int 0, .ref (b + 124)]) rfl ?_
    have hW : (w_L_addDelay c w x y) = (0, u9.2, va_up w 124 (u9.1).toInt64) := by unfold w_L_addDelay; rw [hu]
    refine zv_i2l (pc := 8) B dL_addDelay_8 ?_
    refine zs_last (pc := 9) B zid rfl dL_addDelay_9 ?_
    refine zv_goto (pc := 10) (tgt := 21) B rfl dL_addDelay_10 ?_
    refine zv_iconst (pc := 21) (v := 0) B rfl dL_addDelay_21 ?_
    exact zv_iret (pc := 22) B (0) hr (fun H hP => ⟨(), ⟨(by rw [hW]), (by rw [hW]; exact hg9), (by rw [hW]; exact hF)⟩, (by rw [hW]; exact hP)⟩) (Nat.le_of_ble_eq_true rfl) (Nat.le_of_ble_eq_true rfl) dL_addDelay_22
def w_L_addFilter (c : Nat → Nat → Int32) (w : Nat → Int64) (x : Int32) (y : Int32) (z : Int32) : Int32 × (Nat → Nat → Int32) × (Nat → Int64) := match m_X6_addFilter c x y z with
  | .inl X9 => (nI (lcd ["java/lang/IllegalArgumentException", "java/lang/IllegalStateException"] X9), c, w)
  | .inr u9 => (0, u9.2, va_up w 124 (u9.1).toInt64)
set_option maxRecDepth 100000 in
set_option maxHeartbeats 300000 in
theorem k_L_addFilter (l : Launch) (E : zE) (b : Nat) (c : Nat → Nat → Int32) (w : Nat → Int64) (en : Nat → Nat) (ea : Nat → Nat → Int32) (x : Int32) (y : Int32) (z : Int32) (hg : zG c) (hlf : l.stackTraces = false) : zM l yL_addFilter (.codeWith yL_addFilter cL_addFilter 6 (some .int) [(0, 12, 15, 13), (0, 12, 19, 15)] :: zAll) (zRm 8 4 24) E b [.ref (b + 0), .int x, .int y, .int z, .ref (b + 124)] (zH E b c w en ea) (fun v9 (_ : Unit) => v9 = some (.int (w_L_addFilter c w x y z).1) ∧ zG (w_L_addFilter c w x y z).2.1 ∧ zfr 1 34 1 1 c (w_L_addFilter c w x y z).2.1) (fun _ => zH E b ((w_L_addFilter c w x y z).2.1) ((w_L_addFilter c w x y z).2.2) en ea) 4 24 := by
  refine zM_ofW "ToneGraphLaw" (by decide) rfl rfl (Nat.le_of_ble_eq_true rfl) (L0 := [(0, .ref (b + 0)), (1, .int x), (2, .int y), (3, .int z), (4, .ref (b + 124))]) rfl ?_
  intro p e s m args below meth c9 B hr hT
  refine zv_aload (pc := 0) B 4 rfl dL_addFilter_0 ?_
  refine zv_iconst (pc := 2) (v := 0) B rfl dL_addFilter_2 ?_
  refine zv_aload_n (pc := 3) B 0 rfl dL_addFilter_3 ?_
  refine zv_iload_n (pc := 4) B 1 rfl dL_addFilter_4 ?_
  refine zv_iload_n (pc := 5) B 2 rfl dL_addFilter_5 ?_
  refine zv_iload_n (pc := 6) B 3 rfl dL_addFilter_6 ?_
  refine zv_callVX (pc := 7) (As := [.int x, .int y, .int z]) (rest := [.int 0, .ref (b + 124)]) B (k_X6_addFilter l E b _ _ _ _  x y z hg hlf) (zcwV 3 7 B wm_L_21 wi_X6_addFilter wv_X6_addFilter wn_X6 wcode_X6_addFilter rfl (by decide +kernel) ⟨(Nat.le_of_ble_eq_true rfl), (Nat.le_of_ble_eq_true rfl)⟩) rfl (zrecv B (zat (by decide) (z0 _ _ _)) cl6) zid rfl (Nat.le_of_ble_eq_true rfl) dL_addFilter_7 ⟨(Nat.le_of_ble_eq_true rfl), (Nat.le_of_ble_eq_true rfl)⟩ (fun X9 hX9 => ?_) (fun v9 u9 hv9 => ?_)
  · rcases xl_addFilter hX9 with rfl | rfl
    · have hW : (w_L_addFilter c w x y z) = (1, c, w) := by unfold w_L_addFilter; rw [hX9]; show (nI (lcd _ _), _) = _; rw [lcd_h]; rfl
      refine zx_catch (nm := "java/lang/IllegalArgumentException") B [] ⟨0, 12, 15, 13⟩ [⟨0, 12, 19, 15⟩] hT (fun z hz => by cases hz) (by decide) (by decide) wc_L_13 (by decide +kernel) (fun q9 => ?_)
      refine zv_astore (pc := 15) (L' := [(5, .ref q9), (0, .ref (b + 0)), (1, .int x), (2, .int y), (3, .int z), (4, .ref (b + 124))]) B (by decide) rfl dL_addFilter_15 ?_
      refine zv_iconst (pc := 17) (v := 1) B rfl dL_addFilter_17 ?_
      exact zv_iret (pc := 18) B (1) hr (fun H hP => ⟨(), ⟨(by rw [hW]), (by rw [hW]; exact hg), (by rw [hW]; exact zfr.refl)⟩, (by rw [hW]; exact hP)⟩) (Nat.le_of_ble_eq_true rfl) (Nat.le_of_ble_eq_true rfl) dL_addFilter_18
    · have hW : (w_L_addFilter c w x y z) = (2, c, w) := by unfold w_L_addFilter; rw [hX9]; show (nI (lcd _ _), _) = _; rw [lcd_s (by decide +kernel), lcd_h]; rfl
      refine zx_catch (nm := "java/lang/IllegalStateException") B [⟨0, 12, 15, 13⟩] ⟨0, 12, 19, 15⟩ [] hT (fun z hz => by rcases List.mem_cons.mp hz with rfl | hz; exact ⟨by decide, _, wc_L_13, by decide +kernel⟩; cases hz) (by decide) (by decide) wc_L_15 (by decide +kernel) (fun q9 => ?_)
      refine zv_astore (pc := 19) (L' := [(5, .ref q9), (0, .ref (b + 0)), (1, .int x), (2, .int y), (3, .int z), (4, .ref (b + 124))]) B (by decide) rfl dL_addFilter_19 ?_
      refine zv_iconst (pc := 21) (v := 2) B rfl dL_addFilter_21 ?_
      exact zv_iret (pc := 22) B (2) hr (fun H hP => ⟨(), ⟨(by rw [hW]), (by rw [hW]; exact hg), (by rw [hW]; exact zfr.refl)⟩, (by rw [hW]; exact hP)⟩) (Nat.le_of_ble_eq_true rfl) (Nat.le_of_ble_eq_true rfl) dL_addFilter_22
  · obtain ⟨hu, rfl, hF, hg9⟩ := hv9
    refine zv_st (st' := [.int u9.1, .int 0, .ref (b + 124)]) rfl ?_
    have hW : (w_L_addFilter c w x y z) = (0, u9.2, va_up w 124 (u9.1).toInt64) := by unfold w_L_addFilter; rw [hu]
    refine zv_i2l (pc := 10) B dL_addFilter_10 ?_
    refine zs_last (pc := 11) B zid rfl dL_addFilter_11 ?_
    refine zv_goto (pc := 12) (tgt := 23) B rfl dL_addFilter_12 ?_
    refine zv_iconst (pc := 23) (v := 0) B rfl dL_addFilter_23 ?_
    exact zv_iret (pc := 24) B (0) hr (fun H hP => ⟨(), ⟨(by rw [hW]), (by rw [hW]; exact hg9), (by rw [hW]; exact hF)⟩, (by rw [hW]; exact hP)⟩) (Nat.le_of_ble_eq_true rfl) (Nat.le_of_ble_eq_true rfl) dL_addFilter_24
def w_L_addBus (c : Nat → Nat → Int32) (w : Nat → Int64) (x : Int32) : Int32 × (Nat → Nat → Int32) × (Nat → Int64) := match m_X6_addBus c x with
  | .inl X9 => (nI (lcd ["java/lang/IllegalArgumentException", "java/lang/IllegalStateException"] X9), c, w)
  | .inr u9 => (0, u9.2, va_up w 124 (u9.1).toInt64)
set_option maxRecDepth 100000 in
set_option maxHeartbeats 300000 in
theorem k_L_addBus (l : Launch) (E : zE) (b : Nat) (c : Nat → Nat → Int32) (w : Nat → Int64) (en : Nat → Nat) (ea : Nat → Nat → Int32) (x : Int32) (hg : zG c) (hlf : l.stackTraces = false) : zM l yL_addBus (.codeWith yL_addBus cL_addBus 4 (some .int) [(0, 9, 12, 13), (0, 9, 15, 15)] :: zAll) (zRm 8 2 12) E b [.ref (b + 0), .int x, .ref (b + 124)] (zH E b c w en ea) (fun v9 (_ : Unit) => v9 = some (.int (w_L_addBus c w x).1) ∧ zG (w_L_addBus c w x).2.1 ∧ zfr 1 34 1 1 c (w_L_addBus c w x).2.1) (fun _ => zH E b ((w_L_addBus c w x).2.1) ((w_L_addBus c w x).2.2) en ea) 2 12 := by
  refine zM_ofW "ToneGraphLaw" (by decide) rfl rfl (Nat.le_of_ble_eq_true rfl) (L0 := [(0, .ref (b + 0)), (1, .int x), (2, .ref (b + 124))]) rfl ?_
  intro p e s m args below meth c9 B hr hT
  refine zv_aload_n (pc := 0) B 2 rfl dL_addBus_0 ?_
  refine zv_iconst (pc := 1) (v := 0) B rfl dL_addBus_1 ?_
  refine zv_aload_n (pc := 2) B 0 rfl dL_addBus_2 ?_
  refine zv_iload_n (pc := 3) B 1 rfl dL_addBus_3 ?_
  refine zv_callVX (pc := 4) (As := [.int x]) (rest := [.int 0, .ref (b + 124)]) B (k_X6_addBus l E b _ _ _ _  x hg hlf) (zcwV 1 7 B wm_L_25 wi_X6_addBus wv_X6_addBus wn_X6 wcode_X6_addBus rfl (by decide +kernel) ⟨(Nat.le_of_ble_eq_true rfl), (Nat.le_of_ble_eq_true rfl)⟩) rfl (zrecv B (zat (by decide) (z0 _ _ _)) cl6) zid rfl (Nat.le_of_ble_eq_true rfl) dL_addBus_4 ⟨(Nat.le_of_ble_eq_true rfl), (Nat.le_of_ble_eq_true rfl)⟩ (fun X9 hX9 => ?_) (fun v9 u9 hv9 => ?_)
  · rcases xl_addBus hX9 with rfl | rfl
    · have hW : (w_L_addBus c w x) = (1, c, w) := by unfold w_L_addBus; rw [hX9]; show (nI (lcd _ _), _) = _; rw [lcd_h]; rfl
      refine zx_catch (nm := "java/lang/IllegalArgumentException") B [] ⟨0, 9, 12, 13⟩ [⟨0, 9, 15, 15⟩] hT (fun z hz => by cases hz) (by decide) (by decide) wc_L_13 (by decide +kernel) (fun q9 => ?_)
      refine zv_astore_n (pc := 12) (L' := [(3, .ref q9), (0, .ref (b + 0)), (1, .int x), (2, .ref (b + 124))]) B (by decide) rfl dL_addBus_12 ?_
      refine zv_iconst (pc := 13) (v := 1) B rfl dL_addBus_13 ?_
      exact zv_iret (pc := 14) B (1) hr (fun H hP => ⟨(), ⟨(by rw [hW]), (by rw [hW]; exact hg), (by rw [hW]; exact zfr.refl)⟩, (by rw [hW]; exact hP)⟩) (Nat.le_of_ble_eq_true rfl) (Nat.le_of_ble_eq_true rfl) dL_addBus_14
    · have hW : (w_L_addBus c w x) = (2, c, w) := by unfold w_L_addBus; rw [hX9]; show (nI (lcd _ _), _) = _; rw [lcd_s (by decide +kernel), lcd_h]; rfl
      refine zx_catch (nm := "java/lang/IllegalStateException") B [⟨0, 9, 12, 13⟩] ⟨0, 9, 15, 15⟩ [] hT (fun z hz => by rcases List.mem_cons.mp hz with rfl | hz; exact ⟨by decide, _, wc_L_13, by decide +kernel⟩; cases hz) (by decide) (by decide) wc_L_15 (by decide +kernel) (fun q9 => ?_)
      refine zv_astore_n (pc := 15) (L' := [(3, .ref q9), (0, .ref (b + 0)), (1, .int x), (2, .ref (b + 124))]) B (by decide) rfl dL_addBus_15 ?_
      refine zv_iconst (pc := 16) (v := 2) B rfl dL_addBus_16 ?_
      exact zv_iret (pc := 17) B (2) hr (fun H hP => ⟨(), ⟨(by rw [hW]), (by rw [hW]; exact hg), (by rw [hW]; exact zfr.refl)⟩, (by rw [hW]; exact hP)⟩) (Nat.le_of_ble_eq_true rfl) (Nat.le_of_ble_eq_true rfl) dL_addBus_17
  · obtain ⟨hu, rfl, hF, hg9⟩ := hv9
    refine zv_st (st' := [.int u9.1, .int 0, .ref (b + 124)]) rfl ?_
    have hW : (w_L_addBus c w x) = (0, u9.2, va_up w 124 (u9.1).toInt64) := by unfold w_L_addBus; rw [hu]
    refine zv_i2l (pc := 7) B dL_addBus_7 ?_
    refine zs_last (pc := 8) B zid rfl dL_addBus_8 ?_
    refine zv_goto (pc := 9) (tgt := 18) B rfl dL_addBus_9 ?_
    refine zv_iconst (pc := 18) (v := 0) B rfl dL_addBus_18 ?_
    exact zv_iret (pc := 19) B (0) hr (fun H hP => ⟨(), ⟨(by rw [hW]), (by rw [hW]; exact hg9), (by rw [hW]; exact hF)⟩, (by rw [hW]; exact hP)⟩) (Nat.le_of_ble_eq_true rfl) (Nat.le_of_ble_eq_true rfl) dL_addBus_19
def w_L_connect (c : Nat → Nat → Int32) (w : Nat → Int64) (x : Int32) (y : Int32) (z : Int32) : Int32 × (Nat → Nat → Int32) × (Nat → Int64) := match m_X6_connect c x y z with
  | .inl X9 => (nI (lcd ["java/lang/IndexOutOfBoundsException", "java/lang/IllegalArgumentException", "java/lang/IllegalStateException", "java/lang/UnsupportedOperationException"] X9), c, w)
  | .inr u9 => (0, u9.2, va_up w 124 (u9.1).toInt64)
set_option maxRecDepth 100000 in
set_option maxHeartbeats 300000 in
theorem k_L_connect (l : Launch) (E : zE) (b : Nat) (c : Nat → Nat → Int32) (w : Nat → Int64) (en : Nat → Nat) (ea : Nat → Nat → Int32) (x : Int32) (y : Int32) (z : Int32) (hg : zG c) (hlf : l.stackTraces = false) : zM l yL_connect (.codeWith yL_connect cL_connect 6 (some .int) [(0, 12, 15, 31), (0, 12, 19, 13), (0, 12, 23, 15), (0, 12, 27, 33)] :: zAll) (zRm 8 4 24) E b [.ref (b + 0), .int x, .int y, .int z, .ref (b + 124)] (zH E b c w en ea) (fun v9 (_ : Unit) => v9 = some (.int (w_L_connect c w x y z).1) ∧ zG (w_L_connect c w x y z).2.1 ∧ zfr 10 34 10 10 c (w_L_connect c w x y z).2.1) (fun _ => zH E b ((w_L_connect c w x y z).2.1) ((w_L_connect c w x y z).2.2) en ea) 4 24 := by
  refine zM_ofW "ToneGraphLaw" (by decide) rfl rfl (Nat.le_of_ble_eq_true rfl) (L0 := [(0, .ref (b + 0)), (1, .int x), (2, .int y), (3, .int z), (4, .ref (b + 124))]) rfl ?_
  intro p e s m args below meth c9 B hr hT
  refine zv_aload (pc := 0) B 4 rfl dL_connect_0 ?_
  refine zv_iconst (pc := 2) (v := 0) B rfl dL_connect_2 ?_
  refine zv_aload_n (pc := 3) B 0 rfl dL_connect_3 ?_
  refine zv_iload_n (pc := 4) B 1 rfl dL_connect_4 ?_
  refine zv_iload_n (pc := 5) B 2 rfl dL_connect_5 ?_
  refine zv_iload_n (pc := 6) B 3 rfl dL_connect_6 ?_
  refine zv_callVX (pc := 7) (As := [.int x, .int y, .int z]) (rest := [.int 0, .ref (b + 124)]) B (k_X6_connect l E b _ _ _ _  x y z hg hlf) (zcwV 3 7 B wm_L_28 wi_X6_connect wv_X6_connect wn_X6 wcode_X6_connect rfl (by decide +kernel) ⟨(Nat.le_of_ble_eq_true rfl), (Nat.le_of_ble_eq_true rfl)⟩) rfl (zrecv B (zat (by decide) (z0 _ _ _)) cl6) zid rfl (Nat.le_of_ble_eq_true rfl) dL_connect_7 ⟨(Nat.le_of_ble_eq_true rfl), (Nat.le_of_ble_eq_true rfl)⟩ (fun X9 hX9 => ?_) (fun v9 u9 hv9 => ?_)
  · rcases xl_connect hX9 with rfl | rfl | rfl | rfl
    · have hW : (w_L_connect c w x y z) = (1, c, w) := by unfold w_L_connect; rw [hX9]; show (nI (lcd _ _), _) = _; rw [lcd_h]; rfl
      refine zx_catch (nm := "java/lang/IndexOutOfBoundsException") B [] ⟨0, 12, 15, 31⟩ [⟨0, 12, 19, 13⟩, ⟨0, 12, 23, 15⟩, ⟨0, 12, 27, 33⟩] hT (fun z hz => by cases hz) (by decide) (by decide) wc_L_31 (by decide +kernel) (fun q9 => ?_)
      refine zv_astore (pc := 15) (L' := [(5, .ref q9), (0, .ref (b + 0)), (1, .int x), (2, .int y), (3, .int z), (4, .ref (b + 124))]) B (by decide) rfl dL_connect_15 ?_
      refine zv_iconst (pc := 17) (v := 1) B rfl dL_connect_17 ?_
      exact zv_iret (pc := 18) B (1) hr (fun H hP => ⟨(), ⟨(by rw [hW]), (by rw [hW]; exact hg), (by rw [hW]; exact zfr.refl)⟩, (by rw [hW]; exact hP)⟩) (Nat.le_of_ble_eq_true rfl) (Nat.le_of_ble_eq_true rfl) dL_connect_18
    · have hW : (w_L_connect c w x y z) = (2, c, w) := by unfold w_L_connect; rw [hX9]; show (nI (lcd _ _), _) = _; rw [lcd_s (by decide +kernel), lcd_h]; rfl
      refine zx_catch (nm := "java/lang/IllegalArgumentException") B [⟨0, 12, 15, 31⟩] ⟨0, 12, 19, 13⟩ [⟨0, 12, 23, 15⟩, ⟨0, 12, 27, 33⟩] hT (fun z hz => by rcases List.mem_cons.mp hz with rfl | hz; exact ⟨by decide, _, wc_L_31, by decide +kernel⟩; cases hz) (by decide) (by decide) wc_L_13 (by decide +kernel) (fun q9 => ?_)
      refine zv_astore (pc := 19) (L' := [(5, .ref q9), (0, .ref (b + 0)), (1, .int x), (2, .int y), (3, .int z), (4, .ref (b + 124))]) B (by decide) rfl dL_connect_19 ?_
      refine zv_iconst (pc := 21) (v := 2) B rfl dL_connect_21 ?_
      exact zv_iret (pc := 22) B (2) hr (fun H hP => ⟨(), ⟨(by rw [hW]), (by rw [hW]; exact hg), (by rw [hW]; exact zfr.refl)⟩, (by rw [hW]; exact hP)⟩) (Nat.le_of_ble_eq_true rfl) (Nat.le_of_ble_eq_true rfl) dL_connect_22
    · have hW : (w_L_connect c w x y z) = (3, c, w) := by unfold w_L_connect; rw [hX9]; show (nI (lcd _ _), _) = _; rw [lcd_s (by decide +kernel), lcd_s (by decide +kernel), lcd_h]; rfl
      refine zx_catch (nm := "java/lang/IllegalStateException") B [⟨0, 12, 15, 31⟩, ⟨0, 12, 19, 13⟩] ⟨0, 12, 23, 15⟩ [⟨0, 12, 27, 33⟩] hT (fun z hz => by rcases List.mem_cons.mp hz with rfl | hz; exact ⟨by decide, _, wc_L_31, by decide +kernel⟩; rcases List.mem_cons.mp hz with rfl | hz; exact ⟨by decide, _, wc_L_13, by decide +kernel⟩; cases hz) (by decide) (by decide) wc_L_15 (by decide +kernel) (fun q9 => ?_)
      refine zv_astore (pc := 23) (L' := [(5, .ref q9), (0, .ref (b + 0)), (1, .int x), (2, .int y), (3, .int z), (4, .ref (b + 124))]) B (by decide) rfl dL_connect_23 ?_
      refine zv_iconst (pc := 25) (v := 3) B rfl dL_connect_25 ?_
      exact zv_iret (pc := 26) B (3) hr (fun H hP => ⟨(), ⟨(by rw [hW]), (by rw [hW]; exact hg), (by rw [hW]; exact zfr.refl)⟩, (by rw [hW]; exact hP)⟩) (Nat.le_of_ble_eq_true rfl) (Nat.le_of_ble_eq_true rfl) dL_connect_26
    · have hW : (w_L_connect c w x y z) = (4, c, w) := by unfold w_L_connect; rw [hX9]; show (nI (lcd _ _), _) = _; rw [lcd_s (by decide +kernel), lcd_s (by decide +kernel), lcd_s (by decide +kernel), lcd_h]; rfl
      refine zx_catch (nm := "java/lang/UnsupportedOperationException") B [⟨0, 12, 15, 31⟩, ⟨0, 12, 19, 13⟩, ⟨0, 12, 23, 15⟩] ⟨0, 12, 27, 33⟩ [] hT (fun z hz => by rcases List.mem_cons.mp hz with rfl | hz; exact ⟨by decide, _, wc_L_31, by decide +kernel⟩; rcases List.mem_cons.mp hz with rfl | hz; exact ⟨by decide, _, wc_L_13, by decide +kernel⟩; rcases List.mem_cons.mp hz with rfl | hz; exact ⟨by decide, _, wc_L_15, by decide +kernel⟩; cases hz) (by decide) (by decide) wc_L_33 (by decide +kernel) (fun q9 => ?_)
      refine zv_astore (pc := 27) (L' := [(5, .ref q9), (0, .ref (b + 0)), (1, .int x), (2, .int y), (3, .int z), (4, .ref (b + 124))]) B (by decide) rfl dL_connect_27 ?_
      refine zv_iconst (pc := 29) (v := 4) B rfl dL_connect_29 ?_
      exact zv_iret (pc := 30) B (4) hr (fun H hP => ⟨(), ⟨(by rw [hW]), (by rw [hW]; exact hg), (by rw [hW]; exact zfr.refl)⟩, (by rw [hW]; exact hP)⟩) (Nat.le_of_ble_eq_true rfl) (Nat.le_of_ble_eq_true rfl) dL_connect_30
  · obtain ⟨hu, rfl, hF, hg9⟩ := hv9
    refine zv_st (st' := [.int u9.1, .int 0, .ref (b + 124)]) rfl ?_
    have hW : (w_L_connect c w x y z) = (0, u9.2, va_up w 124 (u9.1).toInt64) := by unfold w_L_connect; rw [hu]
    refine zv_i2l (pc := 10) B dL_connect_10 ?_
    refine zs_last (pc := 11) B zid rfl dL_connect_11 ?_
    refine zv_goto (pc := 12) (tgt := 31) B rfl dL_connect_12 ?_
    refine zv_iconst (pc := 31) (v := 0) B rfl dL_connect_31 ?_
    exact zv_iret (pc := 32) B (0) hr (fun H hP => ⟨(), ⟨(by rw [hW]), (by rw [hW]; exact hg9), (by rw [hW]; exact hF)⟩, (by rw [hW]; exact hP)⟩) (Nat.le_of_ble_eq_true rfl) (Nat.le_of_ble_eq_true rfl) dL_connect_32
def w_L_disconnect (c : Nat → Nat → Int32) (w : Nat → Int64) (x : Int32) (y : Int32) : Int32 × (Nat → Nat → Int32) × (Nat → Int64) := match m_X6_disconnect c x y with
  | .inl X9 => (nI (lcd ["java/lang/IndexOutOfBoundsException", "java/util/NoSuchElementException"] X9), c, w)
  | .inr u9 => (0, u9.2, va_up w 124 (u9.1).toInt64)
set_option maxRecDepth 100000 in
set_option maxHeartbeats 300000 in
theorem k_L_disconnect (l : Launch) (E : zE) (b : Nat) (c : Nat → Nat → Int32) (w : Nat → Int64) (en : Nat → Nat) (ea : Nat → Nat → Int32) (x : Int32) (y : Int32) (hg : zG c) (hlf : l.stackTraces = false) : zM l yL_disconnect (.codeWith yL_disconnect cL_disconnect 5 (some .int) [(0, 10, 13, 31), (0, 10, 17, 38)] :: zAll) (zRm 8 3 18) E b [.ref (b + 0), .int x, .int y, .ref (b + 124)] (zH E b c w en ea) (fun v9 (_ : Unit) => v9 = some (.int (w_L_disconnect c w x y).1) ∧ zG (w_L_disconnect c w x y).2.1 ∧ zfr 10 34 10 10 c (w_L_disconnect c w x y).2.1) (fun _ => zH E b ((w_L_disconnect c w x y).2.1) ((w_L_disconnect c w x y).2.2) en ea) 3 18 := by
  refine zM_ofW "ToneGraphLaw" (by decide) rfl rfl (Nat.le_of_ble_eq_true rfl) (L0 := [(0, .ref (b + 0)), (1, .int x), (2, .int y), (3, .ref (b + 124))]) rfl ?_
  intro p e s m args below meth c9 B hr hT
  refine zv_aload_n (pc := 0) B 3 rfl dL_disconnect_0 ?_
  refine zv_iconst (pc := 1) (v := 0) B rfl dL_disconnect_1 ?_
  refine zv_aload_n (pc := 2) B 0 rfl dL_disconnect_2 ?_
  refine zv_iload_n (pc := 3) B 1 rfl dL_disconnect_3 ?_
  refine zv_iload_n (pc := 4) B 2 rfl dL_disconnect_4 ?_
  refine zv_callVX (pc := 5) (As := [.int x, .int y]) (rest := [.int 0, .ref (b + 124)]) B (k_X6_disconnect l E b _ _ _ _  x y hg hlf) (zcwV 2 7 B wm_L_35 wi_X6_disconnect wv_X6_disconnect wn_X6 wcode_X6_disconnect rfl (by decide +kernel) ⟨(Nat.le_of_ble_eq_true rfl), (Nat.le_of_ble_eq_true rfl)⟩) rfl (zrecv B (zat (by decide) (z0 _ _ _)) cl6) zid rfl (Nat.le_of_ble_eq_true rfl) dL_disconnect_5 ⟨(Nat.le_of_ble_eq_true rfl), (Nat.le_of_ble_eq_true rfl)⟩ (fun X9 hX9 => ?_) (fun v9 u9 hv9 => ?_)
  · rcases xl_disconnect hX9 with rfl | rfl
    · have hW : (w_L_disconnect c w x y) = (1, c, w) := by unfold w_L_disconnect; rw [hX9]; show (nI (lcd _ _), _) = _; rw [lcd_h]; rfl
      refine zx_catch (nm := "java/lang/IndexOutOfBoundsException") B [] ⟨0, 10, 13, 31⟩ [⟨0, 10, 17, 38⟩] hT (fun z hz => by cases hz) (by decide) (by decide) wc_L_31 (by decide +kernel) (fun q9 => ?_)
      refine zv_astore (pc := 13) (L' := [(4, .ref q9), (0, .ref (b + 0)), (1, .int x), (2, .int y), (3, .ref (b + 124))]) B (by decide) rfl dL_disconnect_13 ?_
      refine zv_iconst (pc := 15) (v := 1) B rfl dL_disconnect_15 ?_
      exact zv_iret (pc := 16) B (1) hr (fun H hP => ⟨(), ⟨(by rw [hW]), (by rw [hW]; exact hg), (by rw [hW]; exact zfr.refl)⟩, (by rw [hW]; exact hP)⟩) (Nat.le_of_ble_eq_true rfl) (Nat.le_of_ble_eq_true rfl) dL_disconnect_16
    · have hW : (w_L_disconnect c w x y) = (2, c, w) := by unfold w_L_disconnect; rw [hX9]; show (nI (lcd _ _), _) = _; rw [lcd_s (by decide +kernel), lcd_h]; rfl
      refine zx_catch (nm := "java/util/NoSuchElementException") B [⟨0, 10, 13, 31⟩] ⟨0, 10, 17, 38⟩ [] hT (fun z hz => by rcases List.mem_cons.mp hz with rfl | hz; exact ⟨by decide, _, wc_L_31, by decide +kernel⟩; cases hz) (by decide) (by decide) wc_L_38 (by decide +kernel) (fun q9 => ?_)
      refine zv_astore (pc := 17) (L' := [(4, .ref q9), (0, .ref (b + 0)), (1, .int x), (2, .int y), (3, .ref (b + 124))]) B (by decide) rfl dL_disconnect_17 ?_
      refine zv_iconst (pc := 19) (v := 2) B rfl dL_disconnect_19 ?_
      exact zv_iret (pc := 20) B (2) hr (fun H hP => ⟨(), ⟨(by rw [hW]), (by rw [hW]; exact hg), (by rw [hW]; exact zfr.refl)⟩, (by rw [hW]; exact hP)⟩) (Nat.le_of_ble_eq_true rfl) (Nat.le_of_ble_eq_true rfl) dL_disconnect_20
  · obtain ⟨hu, rfl, hF, hg9⟩ := hv9
    refine zv_st (st' := [.int u9.1, .int 0, .ref (b + 124)]) rfl ?_
    have hW : (w_L_disconnect c w x y) = (0, u9.2, va_up w 124 (u9.1).toInt64) := by unfold w_L_disconnect; rw [hu]
    refine zv_i2l (pc := 8) B dL_disconnect_8 ?_
    refine zs_last (pc := 9) B zid rfl dL_disconnect_9 ?_
    refine zv_goto (pc := 10) (tgt := 21) B rfl dL_disconnect_10 ?_
    refine zv_iconst (pc := 21) (v := 0) B rfl dL_disconnect_21 ?_
    exact zv_iret (pc := 22) B (0) hr (fun H hP => ⟨(), ⟨(by rw [hW]), (by rw [hW]; exact hg9), (by rw [hW]; exact hF)⟩, (by rw [hW]; exact hP)⟩) (Nat.le_of_ble_eq_true rfl) (Nat.le_of_ble_eq_true rfl) dL_disconnect_22
def w_L_setGain (c : Nat → Nat → Int32) (w : Nat → Int64) (x : Int32) (y : Int32) : Int32 × (Nat → Nat → Int32) × (Nat → Int64) := match m_X6_setGain c x y with
  | .inl X9 => (nI (lcd ["java/lang/IndexOutOfBoundsException", "java/lang/UnsupportedOperationException", "java/lang/IllegalArgumentException"] X9), c, w)
  | .inr u9 => (0, u9.2, va_up w 124 (u9.1).toInt64)
set_option maxRecDepth 100000 in
set_option maxHeartbeats 300000 in
theorem k_L_setGain (l : Launch) (E : zE) (b : Nat) (c : Nat → Nat → Int32) (w : Nat → Int64) (en : Nat → Nat) (ea : Nat → Nat → Int32) (x : Int32) (y : Int32) (hg : zG c) (hlf : l.stackTraces = false) : zM l yL_setGain (.codeWith yL_setGain cL_setGain 5 (some .int) [(0, 10, 13, 31), (0, 10, 17, 33), (0, 10, 21, 13)] :: zAll) (zRm 8 2 12) E b [.ref (b + 0), .int x, .int y, .ref (b + 124)] (zH E b c w en ea) (fun v9 (_ : Unit) => v9 = some (.int (w_L_setGain c w x y).1) ∧ zG (w_L_setGain c w x y).2.1 ∧ zfr 3 4 3 3 c (w_L_setGain c w x y).2.1) (fun _ => zH E b ((w_L_setGain c w x y).2.1) ((w_L_setGain c w x y).2.2) en ea) 2 12 := by
  refine zM_ofW "ToneGraphLaw" (by decide) rfl rfl (Nat.le_of_ble_eq_true rfl) (L0 := [(0, .ref (b + 0)), (1, .int x), (2, .int y), (3, .ref (b + 124))]) rfl ?_
  intro p e s m args below meth c9 B hr hT
  refine zv_aload_n (pc := 0) B 3 rfl dL_setGain_0 ?_
  refine zv_iconst (pc := 1) (v := 0) B rfl dL_setGain_1 ?_
  refine zv_aload_n (pc := 2) B 0 rfl dL_setGain_2 ?_
  refine zv_iload_n (pc := 3) B 1 rfl dL_setGain_3 ?_
  refine zv_iload_n (pc := 4) B 2 rfl dL_setGain_4 ?_
  refine zv_callVX (pc := 5) (As := [.int x, .int y]) (rest := [.int 0, .ref (b + 124)]) B (k_X6_setGain l E b _ _ _ _  x y hg hlf) (zcwV 2 7 B wm_L_40 wi_X6_setGain wv_X6_setGain wn_X6 wcode_X6_setGain rfl (by decide +kernel) ⟨(Nat.le_of_ble_eq_true rfl), (Nat.le_of_ble_eq_true rfl)⟩) rfl (zrecv B (zat (by decide) (z0 _ _ _)) cl6) zid rfl (Nat.le_of_ble_eq_true rfl) dL_setGain_5 ⟨(Nat.le_of_ble_eq_true rfl), (Nat.le_of_ble_eq_true rfl)⟩ (fun X9 hX9 => ?_) (fun v9 u9 hv9 => ?_)
  · rcases xl_setGain hX9 with rfl | rfl | rfl
    · have hW : (w_L_setGain c w x y) = (1, c, w) := by unfold w_L_setGain; rw [hX9]; show (nI (lcd _ _), _) = _; rw [lcd_h]; rfl
      refine zx_catch (nm := "java/lang/IndexOutOfBoundsException") B [] ⟨0, 10, 13, 31⟩ [⟨0, 10, 17, 33⟩, ⟨0, 10, 21, 13⟩] hT (fun z hz => by cases hz) (by decide) (by decide) wc_L_31 (by decide +kernel) (fun q9 => ?_)
      refine zv_astore (pc := 13) (L' := [(4, .ref q9), (0, .ref (b + 0)), (1, .int x), (2, .int y), (3, .ref (b + 124))]) B (by decide) rfl dL_setGain_13 ?_
      refine zv_iconst (pc := 15) (v := 1) B rfl dL_setGain_15 ?_
      exact zv_iret (pc := 16) B (1) hr (fun H hP => ⟨(), ⟨(by rw [hW]), (by rw [hW]; exact hg), (by rw [hW]; exact zfr.refl)⟩, (by rw [hW]; exact hP)⟩) (Nat.le_of_ble_eq_true rfl) (Nat.le_of_ble_eq_true rfl) dL_setGain_16
    · have hW : (w_L_setGain c w x y) = (2, c, w) := by unfold w_L_setGain; rw [hX9]; show (nI (lcd _ _), _) = _; rw [lcd_s (by decide +kernel), lcd_h]; rfl
      refine zx_catch (nm := "java/lang/UnsupportedOperationException") B [⟨0, 10, 13, 31⟩] ⟨0, 10, 17, 33⟩ [⟨0, 10, 21, 13⟩] hT (fun z hz => by rcases List.mem_cons.mp hz with rfl | hz; exact ⟨by decide, _, wc_L_31, by decide +kernel⟩; cases hz) (by decide) (by decide) wc_L_33 (by decide +kernel) (fun q9 => ?_)
      refine zv_astore (pc := 17) (L' := [(4, .ref q9), (0, .ref (b + 0)), (1, .int x), (2, .int y), (3, .ref (b + 124))]) B (by decide) rfl dL_setGain_17 ?_
      refine zv_iconst (pc := 19) (v := 2) B rfl dL_setGain_19 ?_
      exact zv_iret (pc := 20) B (2) hr (fun H hP => ⟨(), ⟨(by rw [hW]), (by rw [hW]; exact hg), (by rw [hW]; exact zfr.refl)⟩, (by rw [hW]; exact hP)⟩) (Nat.le_of_ble_eq_true rfl) (Nat.le_of_ble_eq_true rfl) dL_setGain_20
    · have hW : (w_L_setGain c w x y) = (3, c, w) := by unfold w_L_setGain; rw [hX9]; show (nI (lcd _ _), _) = _; rw [lcd_s (by decide +kernel), lcd_s (by decide +kernel), lcd_h]; rfl
      refine zx_catch (nm := "java/lang/IllegalArgumentException") B [⟨0, 10, 13, 31⟩, ⟨0, 10, 17, 33⟩] ⟨0, 10, 21, 13⟩ [] hT (fun z hz => by rcases List.mem_cons.mp hz with rfl | hz; exact ⟨by decide, _, wc_L_31, by decide +kernel⟩; rcases List.mem_cons.mp hz with rfl | hz; exact ⟨by decide, _, wc_L_33, by decide +kernel⟩; cases hz) (by decide) (by decide) wc_L_13 (by decide +kernel) (fun q9 => ?_)
      refine zv_astore (pc := 21) (L' := [(4, .ref q9), (0, .ref (b + 0)), (1, .int x), (2, .int y), (3, .ref (b + 124))]) B (by decide) rfl dL_setGain_21 ?_
      refine zv_iconst (pc := 23) (v := 3) B rfl dL_setGain_23 ?_
      exact zv_iret (pc := 24) B (3) hr (fun H hP => ⟨(), ⟨(by rw [hW]), (by rw [hW]; exact hg), (by rw [hW]; exact zfr.refl)⟩, (by rw [hW]; exact hP)⟩) (Nat.le_of_ble_eq_true rfl) (Nat.le_of_ble_eq_true rfl) dL_setGain_24
  · obtain ⟨hu, rfl, hF, hg9⟩ := hv9
    refine zv_st (st' := [.int u9.1, .int 0, .ref (b + 124)]) rfl ?_
    have hW : (w_L_setGain c w x y) = (0, u9.2, va_up w 124 (u9.1).toInt64) := by unfold w_L_setGain; rw [hu]
    refine zv_i2l (pc := 8) B dL_setGain_8 ?_
    refine zs_last (pc := 9) B zid rfl dL_setGain_9 ?_
    refine zv_goto (pc := 10) (tgt := 25) B rfl dL_setGain_10 ?_
    refine zv_iconst (pc := 25) (v := 0) B rfl dL_setGain_25 ?_
    exact zv_iret (pc := 26) B (0) hr (fun H hP => ⟨(), ⟨(by rw [hW]), (by rw [hW]; exact hg9), (by rw [hW]; exact hF)⟩, (by rw [hW]; exact hP)⟩) (Nat.le_of_ble_eq_true rfl) (Nat.le_of_ble_eq_true rfl) dL_setGain_26
def w_L_setOutput (c : Nat → Nat → Int32) (w : Nat → Int64) (x : Int32) : Int32 × (Nat → Nat → Int32) × (Nat → Int64) := match m_X6_setOutput c x with
  | .inl X9 => (nI (lcd ["java/lang/IndexOutOfBoundsException"] X9), c, w)
  | .inr u9 => (0, u9.2, va_up w 124 (u9.1).toInt64)
set_option maxRecDepth 100000 in
set_option maxHeartbeats 300000 in
theorem k_L_setOutput (l : Launch) (E : zE) (b : Nat) (c : Nat → Nat → Int32) (w : Nat → Int64) (en : Nat → Nat) (ea : Nat → Nat → Int32) (x : Int32) (hg : zG c) (hlf : l.stackTraces = false) : zM l yL_setOutput (.codeWith yL_setOutput cL_setOutput 4 (some .int) [(0, 9, 12, 31)] :: zAll) (zRm 8 1 6) E b [.ref (b + 0), .int x, .ref (b + 124)] (zH E b c w en ea) (fun v9 (_ : Unit) => v9 = some (.int (w_L_setOutput c w x).1) ∧ zG (w_L_setOutput c w x).2.1 ∧ zfr 1 2 1 1 c (w_L_setOutput c w x).2.1) (fun _ => zH E b ((w_L_setOutput c w x).2.1) ((w_L_setOutput c w x).2.2) en ea) 1 6 := by
  refine zM_ofW "ToneGraphLaw" (by decide) rfl rfl (Nat.le_of_ble_eq_true rfl) (L0 := [(0, .ref (b + 0)), (1, .int x), (2, .ref (b + 124))]) rfl ?_
  intro p e s m args below meth c9 B hr hT
  refine zv_aload_n (pc := 0) B 2 rfl dL_setOutput_0 ?_
  refine zv_iconst (pc := 1) (v := 0) B rfl dL_setOutput_1 ?_
  refine zv_aload_n (pc := 2) B 0 rfl dL_setOutput_2 ?_
  refine zv_iload_n (pc := 3) B 1 rfl dL_setOutput_3 ?_
  refine zv_callVX (pc := 4) (As := [.int x]) (rest := [.int 0, .ref (b + 124)]) B (k_X6_setOutput l E b _ _ _ _  x hg hlf) (zcwV 1 7 B wm_L_43 wi_X6_setOutput wv_X6_setOutput wn_X6 wcode_X6_setOutput rfl (by decide +kernel) ⟨(Nat.le_of_ble_eq_true rfl), (Nat.le_of_ble_eq_true rfl)⟩) rfl (zrecv B (zat (by decide) (z0 _ _ _)) cl6) zid rfl (Nat.le_of_ble_eq_true rfl) dL_setOutput_4 ⟨(Nat.le_of_ble_eq_true rfl), (Nat.le_of_ble_eq_true rfl)⟩ (fun X9 hX9 => ?_) (fun v9 u9 hv9 => ?_)
  · rcases xl_setOutput hX9 with rfl
    · have hW : (w_L_setOutput c w x) = (1, c, w) := by unfold w_L_setOutput; rw [hX9]; show (nI (lcd _ _), _) = _; rw [lcd_h]; rfl
      refine zx_catch (nm := "java/lang/IndexOutOfBoundsException") B [] ⟨0, 9, 12, 31⟩ [] hT (fun z hz => by cases hz) (by decide) (by decide) wc_L_31 (by decide +kernel) (fun q9 => ?_)
      refine zv_astore_n (pc := 12) (L' := [(3, .ref q9), (0, .ref (b + 0)), (1, .int x), (2, .ref (b + 124))]) B (by decide) rfl dL_setOutput_12 ?_
      refine zv_iconst (pc := 13) (v := 1) B rfl dL_setOutput_13 ?_
      exact zv_iret (pc := 14) B (1) hr (fun H hP => ⟨(), ⟨(by rw [hW]), (by rw [hW]; exact hg), (by rw [hW]; exact zfr.refl)⟩, (by rw [hW]; exact hP)⟩) (Nat.le_of_ble_eq_true rfl) (Nat.le_of_ble_eq_true rfl) dL_setOutput_14
  · obtain ⟨hu, rfl, hF, hg9⟩ := hv9
    refine zv_st (st' := [.int u9.1, .int 0, .ref (b + 124)]) rfl ?_
    have hW : (w_L_setOutput c w x) = (0, u9.2, va_up w 124 (u9.1).toInt64) := by unfold w_L_setOutput; rw [hu]
    refine zv_i2l (pc := 7) B dL_setOutput_7 ?_
    refine zs_last (pc := 8) B zid rfl dL_setOutput_8 ?_
    refine zv_goto (pc := 9) (tgt := 15) B rfl dL_setOutput_9 ?_
    refine zv_iconst (pc := 15) (v := 0) B rfl dL_setOutput_15 ?_
    exact zv_iret (pc := 16) B (0) hr (fun H hP => ⟨(), ⟨(by rw [hW]), (by rw [hW]; exact hg9), (by rw [hW]; exact hF)⟩, (by rw [hW]; exact hP)⟩) (Nat.le_of_ble_eq_true rfl) (Nat.le_of_ble_eq_true rfl) dL_setOutput_16
def w_L_kindOf (c : Nat → Nat → Int32) (w : Nat → Int64) (x : Int32) : Int32 × (Nat → Nat → Int32) × (Nat → Int64) := match m_X6_kindOf c x with
  | .inl X9 => (nI (lcd ["java/lang/IndexOutOfBoundsException"] X9), c, w)
  | .inr u9 => (0, c, va_up w 124 (u9).toInt64)
set_option maxRecDepth 100000 in
set_option maxHeartbeats 300000 in
theorem k_L_kindOf (l : Launch) (E : zE) (b : Nat) (c : Nat → Nat → Int32) (w : Nat → Int64) (en : Nat → Nat) (ea : Nat → Nat → Int32) (x : Int32) (hg : zG c) (hlf : l.stackTraces = false) : zM l yL_kindOf (.codeWith yL_kindOf cL_kindOf 4 (some .int) [(0, 9, 12, 31)] :: zAll) (zRm 8 1 6) E b [.ref (b + 0), .int x, .ref (b + 124)] (zH E b c w en ea) (fun v9 (_ : Unit) => v9 = some (.int (w_L_kindOf c w x).1) ∧ zG (w_L_kindOf c w x).2.1 ∧ zfr 0 0 0 0 c (w_L_kindOf c w x).2.1) (fun _ => zH E b ((w_L_kindOf c w x).2.1) ((w_L_kindOf c w x).2.2) en ea) 1 6 := by
  refine zM_ofW "ToneGraphLaw" (by decide) rfl rfl (Nat.le_of_ble_eq_true rfl) (L0 := [(0, .ref (b + 0)), (1, .int x), (2, .ref (b + 124))]) rfl ?_
  intro p e s m args below meth c9 B hr hT
  refine zv_aload_n (pc := 0) B 2 rfl dL_kindOf_0 ?_
  refine zv_iconst (pc := 1) (v := 0) B rfl dL_kindOf_1 ?_
  refine zv_aload_n (pc := 2) B 0 rfl dL_kindOf_2 ?_
  refine zv_iload_n (pc := 3) B 1 rfl dL_kindOf_3 ?_
  refine zv_callVX (pc := 4) (As := [.int x]) (rest := [.int 0, .ref (b + 124)]) B (k_X6_kindOf l E b _ _ _ _  x hg hlf) (zcwV 1 7 B wm_L_46 wi_X6_kindOf wv_X6_kindOf wn_X6 wcode_X6_kindOf rfl (by decide +kernel) ⟨(Nat.le_of_ble_eq_true rfl), (Nat.le_of_ble_eq_true rfl)⟩) rfl (zrecv B (zat (by decide) (z0 _ _ _)) cl6) zid rfl (Nat.le_of_ble_eq_true rfl) dL_kindOf_4 ⟨(Nat.le_of_ble_eq_true rfl), (Nat.le_of_ble_eq_true rfl)⟩ (fun X9 hX9 => ?_) (fun v9 u9 hv9 => ?_)
  · rcases xl_kindOf hX9 with rfl
    · have hW : (w_L_kindOf c w x) = (1, c, w) := by unfold w_L_kindOf; rw [hX9]; show (nI (lcd _ _), _) = _; rw [lcd_h]; rfl
      refine zx_catch (nm := "java/lang/IndexOutOfBoundsException") B [] ⟨0, 9, 12, 31⟩ [] hT (fun z hz => by cases hz) (by decide) (by decide) wc_L_31 (by decide +kernel) (fun q9 => ?_)
      refine zv_astore_n (pc := 12) (L' := [(3, .ref q9), (0, .ref (b + 0)), (1, .int x), (2, .ref (b + 124))]) B (by decide) rfl dL_kindOf_12 ?_
      refine zv_iconst (pc := 13) (v := 1) B rfl dL_kindOf_13 ?_
      exact zv_iret (pc := 14) B (1) hr (fun H hP => ⟨(), ⟨(by rw [hW]), (by rw [hW]; exact hg), (by rw [hW]; exact zfr.refl)⟩, (by rw [hW]; exact hP)⟩) (Nat.le_of_ble_eq_true rfl) (Nat.le_of_ble_eq_true rfl) dL_kindOf_14
  · obtain ⟨hu, rfl⟩ := hv9
    refine zv_st (st' := [.int u9, .int 0, .ref (b + 124)]) rfl ?_
    have hW : (w_L_kindOf c w x) = (0, c, va_up w 124 (u9).toInt64) := by unfold w_L_kindOf; rw [hu]
    refine zv_i2l (pc := 7) B dL_kindOf_7 ?_
    refine zs_last (pc := 8) B zid rfl dL_kindOf_8 ?_
    refine zv_goto (pc := 9) (tgt := 15) B rfl dL_kindOf_9 ?_
    refine zv_iconst (pc := 15) (v := 0) B rfl dL_kindOf_15 ?_
    exact zv_iret (pc := 16) B (0) hr (fun H hP => ⟨(), ⟨(by rw [hW]), (by rw [hW]; exact hg), (by rw [hW]; exact zfr.refl)⟩, (by rw [hW]; exact hP)⟩) (Nat.le_of_ble_eq_true rfl) (Nat.le_of_ble_eq_true rfl) dL_kindOf_16
def w_L_wires (c : Nat → Nat → Int32) (w : Nat → Int64) (x : Int32) : Int32 × (Nat → Nat → Int32) × (Nat → Int64) := match m_X6_wires c x with
  | .inl X9 => (nI (lcd ["java/lang/IndexOutOfBoundsException"] X9), c, w)
  | .inr u9 => (0, c, va_up w 124 (u9).toInt64)
set_option maxRecDepth 100000 in
set_option maxHeartbeats 300000 in
theorem k_L_wires (l : Launch) (E : zE) (b : Nat) (c : Nat → Nat → Int32) (w : Nat → Int64) (en : Nat → Nat) (ea : Nat → Nat → Int32) (x : Int32) (hg : zG c) (hlf : l.stackTraces = false) : zM l yL_wires (.codeWith yL_wires cL_wires 4 (some .int) [(0, 9, 12, 31)] :: zAll) (zRm 8 1 6) E b [.ref (b + 0), .int x, .ref (b + 124)] (zH E b c w en ea) (fun v9 (_ : Unit) => v9 = some (.int (w_L_wires c w x).1) ∧ zG (w_L_wires c w x).2.1 ∧ zfr 0 0 0 0 c (w_L_wires c w x).2.1) (fun _ => zH E b ((w_L_wires c w x).2.1) ((w_L_wires c w x).2.2) en ea) 1 6 := by
  refine zM_ofW "ToneGraphLaw" (by decide) rfl rfl (Nat.le_of_ble_eq_true rfl) (L0 := [(0, .ref (b + 0)), (1, .int x), (2, .ref (b + 124))]) rfl ?_
  intro p e s m args below meth c9 B hr hT
  refine zv_aload_n (pc := 0) B 2 rfl dL_wires_0 ?_
  refine zv_iconst (pc := 1) (v := 0) B rfl dL_wires_1 ?_
  refine zv_aload_n (pc := 2) B 0 rfl dL_wires_2 ?_
  refine zv_iload_n (pc := 3) B 1 rfl dL_wires_3 ?_
  refine zv_callVX (pc := 4) (As := [.int x]) (rest := [.int 0, .ref (b + 124)]) B (k_X6_wires l E b _ _ _ _  x hg hlf) (zcwV 1 7 B wm_L_50 wi_X6_wires wv_X6_wires wn_X6 wcode_X6_wires rfl (by decide +kernel) ⟨(Nat.le_of_ble_eq_true rfl), (Nat.le_of_ble_eq_true rfl)⟩) rfl (zrecv B (zat (by decide) (z0 _ _ _)) cl6) zid rfl (Nat.le_of_ble_eq_true rfl) dL_wires_4 ⟨(Nat.le_of_ble_eq_true rfl), (Nat.le_of_ble_eq_true rfl)⟩ (fun X9 hX9 => ?_) (fun v9 u9 hv9 => ?_)
  · rcases xl_wires hX9 with rfl
    · have hW : (w_L_wires c w x) = (1, c, w) := by unfold w_L_wires; rw [hX9]; show (nI (lcd _ _), _) = _; rw [lcd_h]; rfl
      refine zx_catch (nm := "java/lang/IndexOutOfBoundsException") B [] ⟨0, 9, 12, 31⟩ [] hT (fun z hz => by cases hz) (by decide) (by decide) wc_L_31 (by decide +kernel) (fun q9 => ?_)
      refine zv_astore_n (pc := 12) (L' := [(3, .ref q9), (0, .ref (b + 0)), (1, .int x), (2, .ref (b + 124))]) B (by decide) rfl dL_wires_12 ?_
      refine zv_iconst (pc := 13) (v := 1) B rfl dL_wires_13 ?_
      exact zv_iret (pc := 14) B (1) hr (fun H hP => ⟨(), ⟨(by rw [hW]), (by rw [hW]; exact hg), (by rw [hW]; exact zfr.refl)⟩, (by rw [hW]; exact hP)⟩) (Nat.le_of_ble_eq_true rfl) (Nat.le_of_ble_eq_true rfl) dL_wires_14
  · obtain ⟨hu, rfl⟩ := hv9
    refine zv_st (st' := [.int u9, .int 0, .ref (b + 124)]) rfl ?_
    have hW : (w_L_wires c w x) = (0, c, va_up w 124 (u9).toInt64) := by unfold w_L_wires; rw [hu]
    refine zv_i2l (pc := 7) B dL_wires_7 ?_
    refine zs_last (pc := 8) B zid rfl dL_wires_8 ?_
    refine zv_goto (pc := 9) (tgt := 15) B rfl dL_wires_9 ?_
    refine zv_iconst (pc := 15) (v := 0) B rfl dL_wires_15 ?_
    exact zv_iret (pc := 16) B (0) hr (fun H hP => ⟨(), ⟨(by rw [hW]), (by rw [hW]; exact hg), (by rw [hW]; exact zfr.refl)⟩, (by rw [hW]; exact hP)⟩) (Nat.le_of_ble_eq_true rfl) (Nat.le_of_ble_eq_true rfl) dL_wires_16
def w_L_wireFrom (c : Nat → Nat → Int32) (w : Nat → Int64) (x : Int32) (y : Int32) : Int32 × (Nat → Nat → Int32) × (Nat → Int64) := match m_X6_wireFrom c x y with
  | .inl X9 => (nI (lcd ["java/lang/IndexOutOfBoundsException", "java/util/NoSuchElementException"] X9), c, w)
  | .inr u9 => (0, c, va_up w 124 (u9).toInt64)
set_option maxRecDepth 100000 in
set_option maxHeartbeats 300000 in
theorem k_L_wireFrom (l : Launch) (E : zE) (b : Nat) (c : Nat → Nat → Int32) (w : Nat → Int64) (en : Nat → Nat) (ea : Nat → Nat → Int32) (x : Int32) (y : Int32) (hg : zG c) (hlf : l.stackTraces = false) : zM l yL_wireFrom (.codeWith yL_wireFrom cL_wireFrom 5 (some .int) [(0, 10, 13, 31), (0, 10, 17, 38)] :: zAll) (zRm 8 2 12) E b [.ref (b + 0), .int x, .int y, .ref (b + 124)] (zH E b c w en ea) (fun v9 (_ : Unit) => v9 = some (.int (w_L_wireFrom c w x y).1) ∧ zG (w_L_wireFrom c w x y).2.1 ∧ zfr 0 0 0 0 c (w_L_wireFrom c w x y).2.1) (fun _ => zH E b ((w_L_wireFrom c w x y).2.1) ((w_L_wireFrom c w x y).2.2) en ea) 2 12 := by
  refine zM_ofW "ToneGraphLaw" (by decide) rfl rfl (Nat.le_of_ble_eq_true rfl) (L0 := [(0, .ref (b + 0)), (1, .int x), (2, .int y), (3, .ref (b + 124))]) rfl ?_
  intro p e s m args below meth c9 B hr hT
  refine zv_aload_n (pc := 0) B 3 rfl dL_wireFrom_0 ?_
  refine zv_iconst (pc := 1) (v := 0) B rfl dL_wireFrom_1 ?_
  refine zv_aload_n (pc := 2) B 0 rfl dL_wireFrom_2 ?_
  refine zv_iload_n (pc := 3) B 1 rfl dL_wireFrom_3 ?_
  refine zv_iload_n (pc := 4) B 2 rfl dL_wireFrom_4 ?_
  refine zv_callVX (pc := 5) (As := [.int x, .int y]) (rest := [.int 0, .ref (b + 124)]) B (k_X6_wireFrom l E b _ _ _ _  x y hg hlf) (zcwV 2 7 B wm_L_53 wi_X6_wireFrom wv_X6_wireFrom wn_X6 wcode_X6_wireFrom rfl (by decide +kernel) ⟨(Nat.le_of_ble_eq_true rfl), (Nat.le_of_ble_eq_true rfl)⟩) rfl (zrecv B (zat (by decide) (z0 _ _ _)) cl6) zid rfl (Nat.le_of_ble_eq_true rfl) dL_wireFrom_5 ⟨(Nat.le_of_ble_eq_true rfl), (Nat.le_of_ble_eq_true rfl)⟩ (fun X9 hX9 => ?_) (fun v9 u9 hv9 => ?_)
  · rcases xl_wireFrom hX9 with rfl | rfl
    · have hW : (w_L_wireFrom c w x y) = (1, c, w) := by unfold w_L_wireFrom; rw [hX9]; show (nI (lcd _ _), _) = _; rw [lcd_h]; rfl
      refine zx_catch (nm := "java/lang/IndexOutOfBoundsException") B [] ⟨0, 10, 13, 31⟩ [⟨0, 10, 17, 38⟩] hT (fun z hz => by cases hz) (by decide) (by decide) wc_L_31 (by decide +kernel) (fun q9 => ?_)
      refine zv_astore (pc := 13) (L' := [(4, .ref q9), (0, .ref (b + 0)), (1, .int x), (2, .int y), (3, .ref (b + 124))]) B (by decide) rfl dL_wireFrom_13 ?_
      refine zv_iconst (pc := 15) (v := 1) B rfl dL_wireFrom_15 ?_
      exact zv_iret (pc := 16) B (1) hr (fun H hP => ⟨(), ⟨(by rw [hW]), (by rw [hW]; exact hg), (by rw [hW]; exact zfr.refl)⟩, (by rw [hW]; exact hP)⟩) (Nat.le_of_ble_eq_true rfl) (Nat.le_of_ble_eq_true rfl) dL_wireFrom_16
    · have hW : (w_L_wireFrom c w x y) = (2, c, w) := by unfold w_L_wireFrom; rw [hX9]; show (nI (lcd _ _), _) = _; rw [lcd_s (by decide +kernel), lcd_h]; rfl
      refine zx_catch (nm := "java/util/NoSuchElementException") B [⟨0, 10, 13, 31⟩] ⟨0, 10, 17, 38⟩ [] hT (fun z hz => by rcases List.mem_cons.mp hz with rfl | hz; exact ⟨by decide, _, wc_L_31, by decide +kernel⟩; cases hz) (by decide) (by decide) wc_L_38 (by decide +kernel) (fun q9 => ?_)
      refine zv_astore (pc := 17) (L' := [(4, .ref q9), (0, .ref (b + 0)), (1, .int x), (2, .int y), (3, .ref (b + 124))]) B (by decide) rfl dL_wireFrom_17 ?_
      refine zv_iconst (pc := 19) (v := 2) B rfl dL_wireFrom_19 ?_
      exact zv_iret (pc := 20) B (2) hr (fun H hP => ⟨(), ⟨(by rw [hW]), (by rw [hW]; exact hg), (by rw [hW]; exact zfr.refl)⟩, (by rw [hW]; exact hP)⟩) (Nat.le_of_ble_eq_true rfl) (Nat.le_of_ble_eq_true rfl) dL_wireFrom_20
  · obtain ⟨hu, rfl⟩ := hv9
    refine zv_st (st' := [.int u9, .int 0, .ref (b + 124)]) rfl ?_
    have hW : (w_L_wireFrom c w x y) = (0, c, va_up w 124 (u9).toInt64) := by unfold w_L_wireFrom; rw [hu]
    refine zv_i2l (pc := 8) B dL_wireFrom_8 ?_
    refine zs_last (pc := 9) B zid rfl dL_wireFrom_9 ?_
    refine zv_goto (pc := 10) (tgt := 21) B rfl dL_wireFrom_10 ?_
    refine zv_iconst (pc := 21) (v := 0) B rfl dL_wireFrom_21 ?_
    exact zv_iret (pc := 22) B (0) hr (fun H hP => ⟨(), ⟨(by rw [hW]), (by rw [hW]; exact hg), (by rw [hW]; exact zfr.refl)⟩, (by rw [hW]; exact hP)⟩) (Nat.le_of_ble_eq_true rfl) (Nat.le_of_ble_eq_true rfl) dL_wireFrom_22
def w_L_wirePercent (c : Nat → Nat → Int32) (w : Nat → Int64) (x : Int32) (y : Int32) : Int32 × (Nat → Nat → Int32) × (Nat → Int64) := match m_X6_wirePercent c x y with
  | .inl X9 => (nI (lcd ["java/lang/IndexOutOfBoundsException", "java/util/NoSuchElementException"] X9), c, w)
  | .inr u9 => (0, c, va_up w 124 (u9).toInt64)
set_option maxRecDepth 100000 in
set_option maxHeartbeats 300000 in
theorem k_L_wirePercent (l : Launch) (E : zE) (b : Nat) (c : Nat → Nat → Int32) (w : Nat → Int64) (en : Nat → Nat) (ea : Nat → Nat → Int32) (x : Int32) (y : Int32) (hg : zG c) (hlf : l.stackTraces = false) : zM l yL_wirePercent (.codeWith yL_wirePercent cL_wirePercent 5 (some .int) [(0, 10, 13, 31), (0, 10, 17, 38)] :: zAll) (zRm 8 2 12) E b [.ref (b + 0), .int x, .int y, .ref (b + 124)] (zH E b c w en ea) (fun v9 (_ : Unit) => v9 = some (.int (w_L_wirePercent c w x y).1) ∧ zG (w_L_wirePercent c w x y).2.1 ∧ zfr 0 0 0 0 c (w_L_wirePercent c w x y).2.1) (fun _ => zH E b ((w_L_wirePercent c w x y).2.1) ((w_L_wirePercent c w x y).2.2) en ea) 2 12 := by
  refine zM_ofW "ToneGraphLaw" (by decide) rfl rfl (Nat.le_of_ble_eq_true rfl) (L0 := [(0, .ref (b + 0)), (1, .int x), (2, .int y), (3, .ref (b + 124))]) rfl ?_
  intro p e s m args below meth c9 B hr hT
  refine zv_aload_n (pc := 0) B 3 rfl dL_wirePercent_0 ?_
  refine zv_iconst (pc := 1) (v := 0) B rfl dL_wirePercent_1 ?_
  refine zv_aload_n (pc := 2) B 0 rfl dL_wirePercent_2 ?_
  refine zv_iload_n (pc := 3) B 1 rfl dL_wirePercent_3 ?_
  refine zv_iload_n (pc := 4) B 2 rfl dL_wirePercent_4 ?_
  refine zv_callVX (pc := 5) (As := [.int x, .int y]) (rest := [.int 0, .ref (b + 124)]) B (k_X6_wirePercent l E b _ _ _ _  x y hg hlf) (zcwV 2 7 B wm_L_56 wi_X6_wirePercent wv_X6_wirePercent wn_X6 wcode_X6_wirePercent rfl (by decide +kernel) ⟨(Nat.le_of_ble_eq_true rfl), (Nat.le_of_ble_eq_true rfl)⟩) rfl (zrecv B (zat (by decide) (z0 _ _ _)) cl6) zid rfl (Nat.le_of_ble_eq_true rfl) dL_wirePercent_5 ⟨(Nat.le_of_ble_eq_true rfl), (Nat.le_of_ble_eq_true rfl)⟩ (fun X9 hX9 => ?_) (fun v9 u9 hv9 => ?_)
  · rcases xl_wirePercent hX9 with rfl | rfl
    · have hW : (w_L_wirePercent c w x y) = (1, c, w) := by unfold w_L_wirePercent; rw [hX9]; show (nI (lcd _ _), _) = _; rw [lcd_h]; rfl
      refine zx_catch (nm := "java/lang/IndexOutOfBoundsException") B [] ⟨0, 10, 13, 31⟩ [⟨0, 10, 17, 38⟩] hT (fun z hz => by cases hz) (by decide) (by decide) wc_L_31 (by decide +kernel) (fun q9 => ?_)
      refine zv_astore (pc := 13) (L' := [(4, .ref q9), (0, .ref (b + 0)), (1, .int x), (2, .int y), (3, .ref (b + 124))]) B (by decide) rfl dL_wirePercent_13 ?_
      refine zv_iconst (pc := 15) (v := 1) B rfl dL_wirePercent_15 ?_
      exact zv_iret (pc := 16) B (1) hr (fun H hP => ⟨(), ⟨(by rw [hW]), (by rw [hW]; exact hg), (by rw [hW]; exact zfr.refl)⟩, (by rw [hW]; exact hP)⟩) (Nat.le_of_ble_eq_true rfl) (Nat.le_of_ble_eq_true rfl) dL_wirePercent_16
    · have hW : (w_L_wirePercent c w x y) = (2, c, w) := by unfold w_L_wirePercent; rw [hX9]; show (nI (lcd _ _), _) = _; rw [lcd_s (by decide +kernel), lcd_h]; rfl
      refine zx_catch (nm := "java/util/NoSuchElementException") B [⟨0, 10, 13, 31⟩] ⟨0, 10, 17, 38⟩ [] hT (fun z hz => by rcases List.mem_cons.mp hz with rfl | hz; exact ⟨by decide, _, wc_L_31, by decide +kernel⟩; cases hz) (by decide) (by decide) wc_L_38 (by decide +kernel) (fun q9 => ?_)
      refine zv_astore (pc := 17) (L' := [(4, .ref q9), (0, .ref (b + 0)), (1, .int x), (2, .int y), (3, .ref (b + 124))]) B (by decide) rfl dL_wirePercent_17 ?_
      refine zv_iconst (pc := 19) (v := 2) B rfl dL_wirePercent_19 ?_
      exact zv_iret (pc := 20) B (2) hr (fun H hP => ⟨(), ⟨(by rw [hW]), (by rw [hW]; exact hg), (by rw [hW]; exact zfr.refl)⟩, (by rw [hW]; exact hP)⟩) (Nat.le_of_ble_eq_true rfl) (Nat.le_of_ble_eq_true rfl) dL_wirePercent_20
  · obtain ⟨hu, rfl⟩ := hv9
    refine zv_st (st' := [.int u9, .int 0, .ref (b + 124)]) rfl ?_
    have hW : (w_L_wirePercent c w x y) = (0, c, va_up w 124 (u9).toInt64) := by unfold w_L_wirePercent; rw [hu]
    refine zv_i2l (pc := 8) B dL_wirePercent_8 ?_
    refine zs_last (pc := 9) B zid rfl dL_wirePercent_9 ?_
    refine zv_goto (pc := 10) (tgt := 21) B rfl dL_wirePercent_10 ?_
    refine zv_iconst (pc := 21) (v := 0) B rfl dL_wirePercent_21 ?_
    exact zv_iret (pc := 22) B (0) hr (fun H hP => ⟨(), ⟨(by rw [hW]), (by rw [hW]; exact hg), (by rw [hW]; exact zfr.refl)⟩, (by rw [hW]; exact hP)⟩) (Nat.le_of_ble_eq_true rfl) (Nat.le_of_ble_eq_true rfl) dL_wirePercent_22
def w_L_nodeAt (c : Nat → Nat → Int32) (w : Nat → Int64) (x : Int32) : Int32 × (Nat → Nat → Int32) × (Nat → Int64) := match m_X6_nodeAt c x with
  | .inl X9 => (nI (lcd ["java/lang/IndexOutOfBoundsException"] X9), c, w)
  | .inr u9 => (0, c, va_up w 124 (u9).toInt64)
set_option maxRecDepth 100000 in
set_option maxHeartbeats 300000 in
theorem k_L_nodeAt (l : Launch) (E : zE) (b : Nat) (c : Nat → Nat → Int32) (w : Nat → Int64) (en : Nat → Nat) (ea : Nat → Nat → Int32) (x : Int32) (hg : zG c) (hlf : l.stackTraces = false) : zM l yL_nodeAt (.codeWith yL_nodeAt cL_nodeAt 4 (some .int) [(0, 9, 12, 31)] :: zAll) (zRm 8 1 6) E b [.ref (b + 0), .int x, .ref (b + 124)] (zH E b c w en ea) (fun v9 (_ : Unit) => v9 = some (.int (w_L_nodeAt c w x).1) ∧ zG (w_L_nodeAt c w x).2.1 ∧ zfr 0 0 0 0 c (w_L_nodeAt c w x).2.1) (fun _ => zH E b ((w_L_nodeAt c w x).2.1) ((w_L_nodeAt c w x).2.2) en ea) 1 6 := by
  refine zM_ofW "ToneGraphLaw" (by decide) rfl rfl (Nat.le_of_ble_eq_true rfl) (L0 := [(0, .ref (b + 0)), (1, .int x), (2, .ref (b + 124))]) rfl ?_
  intro p e s m args below meth c9 B hr hT
  refine zv_aload_n (pc := 0) B 2 rfl dL_nodeAt_0 ?_
  refine zv_iconst (pc := 1) (v := 0) B rfl dL_nodeAt_1 ?_
  refine zv_aload_n (pc := 2) B 0 rfl dL_nodeAt_2 ?_
  refine zv_iload_n (pc := 3) B 1 rfl dL_nodeAt_3 ?_
  refine zv_callVX (pc := 4) (As := [.int x]) (rest := [.int 0, .ref (b + 124)]) B (k_X6_nodeAt l E b _ _ _ _  x hg hlf) (zcwV 1 7 B wm_L_59 wi_X6_nodeAt wv_X6_nodeAt wn_X6 wcode_X6_nodeAt rfl (by decide +kernel) ⟨(Nat.le_of_ble_eq_true rfl), (Nat.le_of_ble_eq_true rfl)⟩) rfl (zrecv B (zat (by decide) (z0 _ _ _)) cl6) zid rfl (Nat.le_of_ble_eq_true rfl) dL_nodeAt_4 ⟨(Nat.le_of_ble_eq_true rfl), (Nat.le_of_ble_eq_true rfl)⟩ (fun X9 hX9 => ?_) (fun v9 u9 hv9 => ?_)
  · rcases xl_nodeAt hX9 with rfl
    · have hW : (w_L_nodeAt c w x) = (1, c, w) := by unfold w_L_nodeAt; rw [hX9]; show (nI (lcd _ _), _) = _; rw [lcd_h]; rfl
      refine zx_catch (nm := "java/lang/IndexOutOfBoundsException") B [] ⟨0, 9, 12, 31⟩ [] hT (fun z hz => by cases hz) (by decide) (by decide) wc_L_31 (by decide +kernel) (fun q9 => ?_)
      refine zv_astore_n (pc := 12) (L' := [(3, .ref q9), (0, .ref (b + 0)), (1, .int x), (2, .ref (b + 124))]) B (by decide) rfl dL_nodeAt_12 ?_
      refine zv_iconst (pc := 13) (v := 1) B rfl dL_nodeAt_13 ?_
      exact zv_iret (pc := 14) B (1) hr (fun H hP => ⟨(), ⟨(by rw [hW]), (by rw [hW]; exact hg), (by rw [hW]; exact zfr.refl)⟩, (by rw [hW]; exact hP)⟩) (Nat.le_of_ble_eq_true rfl) (Nat.le_of_ble_eq_true rfl) dL_nodeAt_14
  · obtain ⟨hu, rfl⟩ := hv9
    refine zv_st (st' := [.int u9, .int 0, .ref (b + 124)]) rfl ?_
    have hW : (w_L_nodeAt c w x) = (0, c, va_up w 124 (u9).toInt64) := by unfold w_L_nodeAt; rw [hu]
    refine zv_i2l (pc := 7) B dL_nodeAt_7 ?_
    refine zs_last (pc := 8) B zid rfl dL_nodeAt_8 ?_
    refine zv_goto (pc := 9) (tgt := 15) B rfl dL_nodeAt_9 ?_
    refine zv_iconst (pc := 15) (v := 0) B rfl dL_nodeAt_15 ?_
    exact zv_iret (pc := 16) B (0) hr (fun H hP => ⟨(), ⟨(by rw [hW]), (by rw [hW]; exact hg), (by rw [hW]; exact zfr.refl)⟩, (by rw [hW]; exact hP)⟩) (Nat.le_of_ble_eq_true rfl) (Nat.le_of_ble_eq_true rfl) dL_nodeAt_16
def w_L_begin (c : Nat → Nat → Int32) (w : Nat → Int64) (en : Nat → Nat) (ea : Nat → Nat → Int32) (x : Int32) (y : Int32) : Int32 × (Nat → Nat → Int32) × (Nat → Int64) × (Nat → Nat) × (Nat → Nat → Int32) := match m_X6_begin c en ea x y with
  | .inl X9 => (nI (lcd ["java/lang/IllegalArgumentException"] X9), c, w, en, ea)
  | .inr u9 => (0, u9.2.1, va_up w 124 (u9.1).toInt64, u9.2.2.1, u9.2.2.2)
set_option maxRecDepth 100000 in
set_option maxHeartbeats 300000 in
theorem k_L_begin (l : Launch) (E : zE) (b : Nat) (c : Nat → Nat → Int32) (w : Nat → Int64) (en : Nat → Nat) (ea : Nat → Nat → Int32) (x : Int32) (y : Int32) (hg : zG c) (hlf : l.stackTraces = false) : zM l yL_begin (.codeWith yL_begin cL_begin 5 (some .int) [(0, 10, 13, 13)] :: zAll) (zRm 9 2 12) E b [.ref (b + 0), .int x, .int y, .ref (b + 124)] (zH E b c w en ea) (fun v9 (_ : Unit) => v9 = some (.int (w_L_begin c w en ea x y).1) ∧ zG (w_L_begin c w en ea x y).2.1 ∧ zfr 34 45 34 34 c (w_L_begin c w en ea x y).2.1) (fun _ => zH E b ((w_L_begin c w en ea x y).2.1) ((w_L_begin c w en ea x y).2.2.1) ((w_L_begin c w en ea x y).2.2.2.1) ((w_L_begin c w en ea x y).2.2.2.2)) 2 12 := by
  refine zM_ofW "ToneGraphLaw" (by decide) rfl rfl (Nat.le_of_ble_eq_true rfl) (L0 := [(0, .ref (b + 0)), (1, .int x), (2, .int y), (3, .ref (b + 124))]) rfl ?_
  intro p e s m args below meth c9 B hr hT
  refine zv_aload_n (pc := 0) B 3 rfl dL_begin_0 ?_
  refine zv_iconst (pc := 1) (v := 0) B rfl dL_begin_1 ?_
  refine zv_aload_n (pc := 2) B 0 rfl dL_begin_2 ?_
  refine zv_iload_n (pc := 3) B 1 rfl dL_begin_3 ?_
  refine zv_iload_n (pc := 4) B 2 rfl dL_begin_4 ?_
  refine zv_callVX (pc := 5) (As := [.int x, .int y]) (rest := [.int 0, .ref (b + 124)]) B (k_X6_begin l E b _ _ _ _  x y hg hlf) (zcwV 2 8 B wm_L_70 wi_X6_begin wv_X6_begin wn_X6 wcode_X6_begin rfl (by decide +kernel) ⟨(Nat.le_of_ble_eq_true rfl), (Nat.le_of_ble_eq_true rfl)⟩) rfl (zrecv B (zat (by decide) (z0 _ _ _)) cl6) zid rfl (Nat.le_of_ble_eq_true rfl) dL_begin_5 ⟨(Nat.le_of_ble_eq_true rfl), (Nat.le_of_ble_eq_true rfl)⟩ (fun X9 hX9 => ?_) (fun v9 u9 hv9 => ?_)
  · rcases xl_begin hX9 with rfl
    · have hW : (w_L_begin c w en ea x y) = (1, c, w, en, ea) := by unfold w_L_begin; rw [hX9]; show (nI (lcd _ _), _) = _; rw [lcd_h]; rfl
      refine zx_catch (nm := "java/lang/IllegalArgumentException") B [] ⟨0, 10, 13, 13⟩ [] hT (fun z hz => by cases hz) (by decide) (by decide) wc_L_13 (by decide +kernel) (fun q9 => ?_)
      refine zv_astore (pc := 13) (L' := [(4, .ref q9), (0, .ref (b + 0)), (1, .int x), (2, .int y), (3, .ref (b + 124))]) B (by decide) rfl dL_begin_13 ?_
      refine zv_iconst (pc := 15) (v := 1) B rfl dL_begin_15 ?_
      exact zv_iret (pc := 16) B (1) hr (fun H hP => ⟨(), ⟨(by rw [hW]), (by rw [hW]; exact hg), (by rw [hW]; exact zfr.refl)⟩, (by rw [hW]; exact hP)⟩) (Nat.le_of_ble_eq_true rfl) (Nat.le_of_ble_eq_true rfl) dL_begin_16
  · obtain ⟨hu, rfl, hF, hg9⟩ := hv9
    refine zv_st (st' := [.int u9.1, .int 0, .ref (b + 124)]) rfl ?_
    have hW : (w_L_begin c w en ea x y) = (0, u9.2.1, va_up w 124 (u9.1).toInt64, u9.2.2.1, u9.2.2.2) := by unfold w_L_begin; rw [hu]
    refine zv_i2l (pc := 8) B dL_begin_8 ?_
    refine zs_last (pc := 9) B zid rfl dL_begin_9 ?_
    refine zv_goto (pc := 10) (tgt := 17) B rfl dL_begin_10 ?_
    refine zv_iconst (pc := 17) (v := 0) B rfl dL_begin_17 ?_
    exact zv_iret (pc := 18) B (0) hr (fun H hP => ⟨(), ⟨(by rw [hW]), (by rw [hW]; exact hg9), (by rw [hW]; exact hF)⟩, (by rw [hW]; exact hP)⟩) (Nat.le_of_ble_eq_true rfl) (Nat.le_of_ble_eq_true rfl) dL_begin_18
def w_L_end (c : Nat → Nat → Int32) (w : Nat → Int64) (ea : Nat → Nat → Int32) (x : Int32) : Int32 × (Nat → Nat → Int32) × (Nat → Int64) := match m_X6_end c ea x with
  | .inl X9 => (nI (lcd ["java/lang/IllegalArgumentException", "java/util/NoSuchElementException"] X9), c, w)
  | .inr u9 => (0, u9.2, va_up w 124 (u9.1).toInt64)
set_option maxRecDepth 100000 in
set_option maxHeartbeats 300000 in
theorem k_L_end (l : Launch) (E : zE) (b : Nat) (c : Nat → Nat → Int32) (w : Nat → Int64) (en : Nat → Nat) (ea : Nat → Nat → Int32) (x : Int32) (hg : zG c) (hlf : l.stackTraces = false) : zM l yL_end (.codeWith yL_end cL_end 4 (some .int) [(0, 9, 12, 13), (0, 9, 15, 38)] :: zAll) (zRm 9 2 12) E b [.ref (b + 0), .int x, .ref (b + 124)] (zH E b c w en ea) (fun v9 (_ : Unit) => v9 = some (.int (w_L_end c w ea x).1) ∧ zG (w_L_end c w ea x).2.1 ∧ zfr 34 45 34 34 c (w_L_end c w ea x).2.1) (fun _ => zH E b ((w_L_end c w ea x).2.1) ((w_L_end c w ea x).2.2) en ea) 2 12 := by
  refine zM_ofW "ToneGraphLaw" (by decide) rfl rfl (Nat.le_of_ble_eq_true rfl) (L0 := [(0, .ref (b + 0)), (1, .int x), (2, .ref (b + 124))]) rfl ?_
  intro p e s m args below meth c9 B hr hT
  refine zv_aload_n (pc := 0) B 2 rfl dL_end_0 ?_
  refine zv_iconst (pc := 1) (v := 0) B rfl dL_end_1 ?_
  refine zv_aload_n (pc := 2) B 0 rfl dL_end_2 ?_
  refine zv_iload_n (pc := 3) B 1 rfl dL_end_3 ?_
  refine zv_callVX (pc := 4) (As := [.int x]) (rest := [.int 0, .ref (b + 124)]) B (k_X6_end l E b _ _ _ _  x hg hlf) (zcwV 1 8 B wm_L_73 wi_X6_end wv_X6_end wn_X6 wcode_X6_end rfl (by decide +kernel) ⟨(Nat.le_of_ble_eq_true rfl), (Nat.le_of_ble_eq_true rfl)⟩) rfl (zrecv B (zat (by decide) (z0 _ _ _)) cl6) zid rfl (Nat.le_of_ble_eq_true rfl) dL_end_4 ⟨(Nat.le_of_ble_eq_true rfl), (Nat.le_of_ble_eq_true rfl)⟩ (fun X9 hX9 => ?_) (fun v9 u9 hv9 => ?_)
  · rcases xl_end hX9 with rfl | rfl
    · have hW : (w_L_end c w ea x) = (1, c, w) := by unfold w_L_end; rw [hX9]; show (nI (lcd _ _), _) = _; rw [lcd_h]; rfl
      refine zx_catch (nm := "java/lang/IllegalArgumentException") B [] ⟨0, 9, 12, 13⟩ [⟨0, 9, 15, 38⟩] hT (fun z hz => by cases hz) (by decide) (by decide) wc_L_13 (by decide +kernel) (fun q9 => ?_)
      refine zv_astore_n (pc := 12) (L' := [(3, .ref q9), (0, .ref (b + 0)), (1, .int x), (2, .ref (b + 124))]) B (by decide) rfl dL_end_12 ?_
      refine zv_iconst (pc := 13) (v := 1) B rfl dL_end_13 ?_
      exact zv_iret (pc := 14) B (1) hr (fun H hP => ⟨(), ⟨(by rw [hW]), (by rw [hW]; exact hg), (by rw [hW]; exact zfr.refl)⟩, (by rw [hW]; exact hP)⟩) (Nat.le_of_ble_eq_true rfl) (Nat.le_of_ble_eq_true rfl) dL_end_14
    · have hW : (w_L_end c w ea x) = (2, c, w) := by unfold w_L_end; rw [hX9]; show (nI (lcd _ _), _) = _; rw [lcd_s (by decide +kernel), lcd_h]; rfl
      refine zx_catch (nm := "java/util/NoSuchElementException") B [⟨0, 9, 12, 13⟩] ⟨0, 9, 15, 38⟩ [] hT (fun z hz => by rcases List.mem_cons.mp hz with rfl | hz; exact ⟨by decide, _, wc_L_13, by decide +kernel⟩; cases hz) (by decide) (by decide) wc_L_38 (by decide +kernel) (fun q9 => ?_)
      refine zv_astore_n (pc := 15) (L' := [(3, .ref q9), (0, .ref (b + 0)), (1, .int x), (2, .ref (b + 124))]) B (by decide) rfl dL_end_15 ?_
      refine zv_iconst (pc := 16) (v := 2) B rfl dL_end_16 ?_
      exact zv_iret (pc := 17) B (2) hr (fun H hP => ⟨(), ⟨(by rw [hW]), (by rw [hW]; exact hg), (by rw [hW]; exact zfr.refl)⟩, (by rw [hW]; exact hP)⟩) (Nat.le_of_ble_eq_true rfl) (Nat.le_of_ble_eq_true rfl) dL_end_17
  · obtain ⟨hu, rfl, hF, hg9⟩ := hv9
    refine zv_st (st' := [.int u9.1, .int 0, .ref (b + 124)]) rfl ?_
    have hW : (w_L_end c w ea x) = (0, u9.2, va_up w 124 (u9.1).toInt64) := by unfold w_L_end; rw [hu]
    refine zv_i2l (pc := 7) B dL_end_7 ?_
    refine zs_last (pc := 8) B zid rfl dL_end_8 ?_
    refine zv_goto (pc := 9) (tgt := 18) B rfl dL_end_9 ?_
    refine zv_iconst (pc := 18) (v := 0) B rfl dL_end_18 ?_
    exact zv_iret (pc := 19) B (0) hr (fun H hP => ⟨(), ⟨(by rw [hW]), (by rw [hW]; exact hg9), (by rw [hW]; exact hF)⟩, (by rw [hW]; exact hP)⟩) (Nat.le_of_ble_eq_true rfl) (Nat.le_of_ble_eq_true rfl) dL_end_19
def w_L_stateOf (c : Nat → Nat → Int32) (w : Nat → Int64) (ea : Nat → Nat → Int32) (x : Int32) : Int32 × (Nat → Nat → Int32) × (Nat → Int64) := match m_X6_stateOf c ea x with
  | .inl X9 => (nI (lcd ["java/lang/IndexOutOfBoundsException"] X9), c, w)
  | .inr u9 => (0, c, va_up w 124 (u9).toInt64)
set_option maxRecDepth 100000 in
set_option maxHeartbeats 300000 in
theorem k_L_stateOf (l : Launch) (E : zE) (b : Nat) (c : Nat → Nat → Int32) (w : Nat → Int64) (en : Nat → Nat) (ea : Nat → Nat → Int32) (x : Int32) (hg : zG c) (hlf : l.stackTraces = false) : zM l yL_stateOf (.codeWith yL_stateOf cL_stateOf 4 (some .int) [(0, 9, 12, 31)] :: zAll) (zRm 8 1 6) E b [.ref (b + 0), .int x, .ref (b + 124)] (zH E b c w en ea) (fun v9 (_ : Unit) => v9 = some (.int (w_L_stateOf c w ea x).1) ∧ zG (w_L_stateOf c w ea x).2.1 ∧ zfr 0 0 0 0 c (w_L_stateOf c w ea x).2.1) (fun _ => zH E b ((w_L_stateOf c w ea x).2.1) ((w_L_stateOf c w ea x).2.2) en ea) 1 6 := by
  refine zM_ofW "ToneGraphLaw" (by decide) rfl rfl (Nat.le_of_ble_eq_true rfl) (L0 := [(0, .ref (b + 0)), (1, .int x), (2, .ref (b + 124))]) rfl ?_
  intro p e s m args below meth c9 B hr hT
  refine zv_aload_n (pc := 0) B 2 rfl dL_stateOf_0 ?_
  refine zv_iconst (pc := 1) (v := 0) B rfl dL_stateOf_1 ?_
  refine zv_aload_n (pc := 2) B 0 rfl dL_stateOf_2 ?_
  refine zv_iload_n (pc := 3) B 1 rfl dL_stateOf_3 ?_
  refine zv_callVX (pc := 4) (As := [.int x]) (rest := [.int 0, .ref (b + 124)]) B (k_X6_stateOf l E b _ _ _ _  x hg hlf) (zcwV 1 7 B wm_L_76 wi_X6_stateOf wv_X6_stateOf wn_X6 wcode_X6_stateOf rfl (by decide +kernel) ⟨(Nat.le_of_ble_eq_true rfl), (Nat.le_of_ble_eq_true rfl)⟩) rfl (zrecv B (zat (by decide) (z0 _ _ _)) cl6) zid rfl (Nat.le_of_ble_eq_true rfl) dL_stateOf_4 ⟨(Nat.le_of_ble_eq_true rfl), (Nat.le_of_ble_eq_true rfl)⟩ (fun X9 hX9 => ?_) (fun v9 u9 hv9 => ?_)
  · rcases xl_stateOf hX9 with rfl
    · have hW : (w_L_stateOf c w ea x) = (1, c, w) := by unfold w_L_stateOf; rw [hX9]; show (nI (lcd _ _), _) = _; rw [lcd_h]; rfl
      refine zx_catch (nm := "java/lang/IndexOutOfBoundsException") B [] ⟨0, 9, 12, 31⟩ [] hT (fun z hz => by cases hz) (by decide) (by decide) wc_L_31 (by decide +kernel) (fun q9 => ?_)
      refine zv_astore_n (pc := 12) (L' := [(3, .ref q9), (0, .ref (b + 0)), (1, .int x), (2, .ref (b + 124))]) B (by decide) rfl dL_stateOf_12 ?_
      refine zv_iconst (pc := 13) (v := 1) B rfl dL_stateOf_13 ?_
      exact zv_iret (pc := 14) B (1) hr (fun H hP => ⟨(), ⟨(by rw [hW]), (by rw [hW]; exact hg), (by rw [hW]; exact zfr.refl)⟩, (by rw [hW]; exact hP)⟩) (Nat.le_of_ble_eq_true rfl) (Nat.le_of_ble_eq_true rfl) dL_stateOf_14
  · obtain ⟨hu, rfl⟩ := hv9
    refine zv_st (st' := [.int u9, .int 0, .ref (b + 124)]) rfl ?_
    have hW : (w_L_stateOf c w ea x) = (0, c, va_up w 124 (u9).toInt64) := by unfold w_L_stateOf; rw [hu]
    refine zv_i2l (pc := 7) B dL_stateOf_7 ?_
    refine zs_last (pc := 8) B zid rfl dL_stateOf_8 ?_
    refine zv_goto (pc := 9) (tgt := 15) B rfl dL_stateOf_9 ?_
    refine zv_iconst (pc := 15) (v := 0) B rfl dL_stateOf_15 ?_
    exact zv_iret (pc := 16) B (0) hr (fun H hP => ⟨(), ⟨(by rw [hW]), (by rw [hW]; exact hg), (by rw [hW]; exact zfr.refl)⟩, (by rw [hW]; exact hP)⟩) (Nat.le_of_ble_eq_true rfl) (Nat.le_of_ble_eq_true rfl) dL_stateOf_16
def w_L_keyOf (c : Nat → Nat → Int32) (w : Nat → Int64) (x : Int32) : Int32 × (Nat → Nat → Int32) × (Nat → Int64) := match m_X6_keyOf c x with
  | .inl X9 => (nI (lcd ["java/lang/IndexOutOfBoundsException", "java/lang/IllegalStateException"] X9), c, w)
  | .inr u9 => (0, c, va_up w 124 (u9).toInt64)
set_option maxRecDepth 100000 in
set_option maxHeartbeats 300000 in
theorem k_L_keyOf (l : Launch) (E : zE) (b : Nat) (c : Nat → Nat → Int32) (w : Nat → Int64) (en : Nat → Nat) (ea : Nat → Nat → Int32) (x : Int32) (hg : zG c) (hlf : l.stackTraces = false) : zM l yL_keyOf (.codeWith yL_keyOf cL_keyOf 4 (some .int) [(0, 9, 12, 31), (0, 9, 15, 15)] :: zAll) (zRm 8 2 12) E b [.ref (b + 0), .int x, .ref (b + 124)] (zH E b c w en ea) (fun v9 (_ : Unit) => v9 = some (.int (w_L_keyOf c w x).1) ∧ zG (w_L_keyOf c w x).2.1 ∧ zfr 0 0 0 0 c (w_L_keyOf c w x).2.1) (fun _ => zH E b ((w_L_keyOf c w x).2.1) ((w_L_keyOf c w x).2.2) en ea) 2 12 := by
  refine zM_ofW "ToneGraphLaw" (by decide) rfl rfl (Nat.le_of_ble_eq_true rfl) (L0 := [(0, .ref (b + 0)), (1, .int x), (2, .ref (b + 124))]) rfl ?_
  intro p e s m args below meth c9 B hr hT
  refine zv_aload_n (pc := 0) B 2 rfl dL_keyOf_0 ?_
  refine zv_iconst (pc := 1) (v := 0) B rfl dL_keyOf_1 ?_
  refine zv_aload_n (pc := 2) B 0 rfl dL_keyOf_2 ?_
  refine zv_iload_n (pc := 3) B 1 rfl dL_keyOf_3 ?_
  refine zv_callVX (pc := 4) (As := [.int x]) (rest := [.int 0, .ref (b + 124)]) B (k_X6_keyOf l E b _ _ _ _  x hg hlf) (zcwV 1 7 B wm_L_79 wi_X6_keyOf wv_X6_keyOf wn_X6 wcode_X6_keyOf rfl (by decide +kernel) ⟨(Nat.le_of_ble_eq_true rfl), (Nat.le_of_ble_eq_true rfl)⟩) rfl (zrecv B (zat (by decide) (z0 _ _ _)) cl6) zid rfl (Nat.le_of_ble_eq_true rfl) dL_keyOf_4 ⟨(Nat.le_of_ble_eq_true rfl), (Nat.le_of_ble_eq_true rfl)⟩ (fun X9 hX9 => ?_) (fun v9 u9 hv9 => ?_)
  · rcases xl_keyOf hX9 with rfl | rfl
    · have hW : (w_L_keyOf c w x) = (1, c, w) := by unfold w_L_keyOf; rw [hX9]; show (nI (lcd _ _), _) = _; rw [lcd_h]; rfl
      refine zx_catch (nm := "java/lang/IndexOutOfBoundsException") B [] ⟨0, 9, 12, 31⟩ [⟨0, 9, 15, 15⟩] hT (fun z hz => by cases hz) (by decide) (by decide) wc_L_31 (by decide +kernel) (fun q9 => ?_)
      refine zv_astore_n (pc := 12) (L' := [(3, .ref q9), (0, .ref (b + 0)), (1, .int x), (2, .ref (b + 124))]) B (by decide) rfl dL_keyOf_12 ?_
      refine zv_iconst (pc := 13) (v := 1) B rfl dL_keyOf_13 ?_
      exact zv_iret (pc := 14) B (1) hr (fun H hP => ⟨(), ⟨(by rw [hW]), (by rw [hW]; exact hg), (by rw [hW]; exact zfr.refl)⟩, (by rw [hW]; exact hP)⟩) (Nat.le_of_ble_eq_true rfl) (Nat.le_of_ble_eq_true rfl) dL_keyOf_14
    · have hW : (w_L_keyOf c w x) = (2, c, w) := by unfold w_L_keyOf; rw [hX9]; show (nI (lcd _ _), _) = _; rw [lcd_s (by decide +kernel), lcd_h]; rfl
      refine zx_catch (nm := "java/lang/IllegalStateException") B [⟨0, 9, 12, 31⟩] ⟨0, 9, 15, 15⟩ [] hT (fun z hz => by rcases List.mem_cons.mp hz with rfl | hz; exact ⟨by decide, _, wc_L_31, by decide +kernel⟩; cases hz) (by decide) (by decide) wc_L_15 (by decide +kernel) (fun q9 => ?_)
      refine zv_astore_n (pc := 15) (L' := [(3, .ref q9), (0, .ref (b + 0)), (1, .int x), (2, .ref (b + 124))]) B (by decide) rfl dL_keyOf_15 ?_
      refine zv_iconst (pc := 16) (v := 2) B rfl dL_keyOf_16 ?_
      exact zv_iret (pc := 17) B (2) hr (fun H hP => ⟨(), ⟨(by rw [hW]), (by rw [hW]; exact hg), (by rw [hW]; exact zfr.refl)⟩, (by rw [hW]; exact hP)⟩) (Nat.le_of_ble_eq_true rfl) (Nat.le_of_ble_eq_true rfl) dL_keyOf_17
  · obtain ⟨hu, rfl⟩ := hv9
    refine zv_st (st' := [.int u9, .int 0, .ref (b + 124)]) rfl ?_
    have hW : (w_L_keyOf c w x) = (0, c, va_up w 124 (u9).toInt64) := by unfold w_L_keyOf; rw [hu]
    refine zv_i2l (pc := 7) B dL_keyOf_7 ?_
    refine zs_last (pc := 8) B zid rfl dL_keyOf_8 ?_
    refine zv_goto (pc := 9) (tgt := 18) B rfl dL_keyOf_9 ?_
    refine zv_iconst (pc := 18) (v := 0) B rfl dL_keyOf_18 ?_
    exact zv_iret (pc := 19) B (0) hr (fun H hP => ⟨(), ⟨(by rw [hW]), (by rw [hW]; exact hg), (by rw [hW]; exact zfr.refl)⟩, (by rw [hW]; exact hP)⟩) (Nat.le_of_ble_eq_true rfl) (Nat.le_of_ble_eq_true rfl) dL_keyOf_19
def w_L_levelOf (c : Nat → Nat → Int32) (w : Nat → Int64) (ea : Nat → Nat → Int32) (x : Int32) : Int32 × (Nat → Nat → Int32) × (Nat → Int64) := match m_X6_levelOf c ea x with
  | .inl X9 => (nI (lcd ["java/lang/IndexOutOfBoundsException"] X9), c, w)
  | .inr u9 => (0, c, va_up w 124 (u9).toInt64)
set_option maxRecDepth 100000 in
set_option maxHeartbeats 300000 in
theorem k_L_levelOf (l : Launch) (E : zE) (b : Nat) (c : Nat → Nat → Int32) (w : Nat → Int64) (en : Nat → Nat) (ea : Nat → Nat → Int32) (x : Int32) (hg : zG c) (hlf : l.stackTraces = false) : zM l yL_levelOf (.codeWith yL_levelOf cL_levelOf 4 (some .int) [(0, 9, 12, 31)] :: zAll) (zRm 8 1 6) E b [.ref (b + 0), .int x, .ref (b + 124)] (zH E b c w en ea) (fun v9 (_ : Unit) => v9 = some (.int (w_L_levelOf c w ea x).1) ∧ zG (w_L_levelOf c w ea x).2.1 ∧ zfr 0 0 0 0 c (w_L_levelOf c w ea x).2.1) (fun _ => zH E b ((w_L_levelOf c w ea x).2.1) ((w_L_levelOf c w ea x).2.2) en ea) 1 6 := by
  refine zM_ofW "ToneGraphLaw" (by decide) rfl rfl (Nat.le_of_ble_eq_true rfl) (L0 := [(0, .ref (b + 0)), (1, .int x), (2, .ref (b + 124))]) rfl ?_
  intro p e s m args below meth c9 B hr hT
  refine zv_aload_n (pc := 0) B 2 rfl dL_levelOf_0 ?_
  refine zv_iconst (pc := 1) (v := 0) B rfl dL_levelOf_1 ?_
  refine zv_aload_n (pc := 2) B 0 rfl dL_levelOf_2 ?_
  refine zv_iload_n (pc := 3) B 1 rfl dL_levelOf_3 ?_
  refine zv_callVX (pc := 4) (As := [.int x]) (rest := [.int 0, .ref (b + 124)]) B (k_X6_levelOf l E b _ _ _ _  x hg hlf) (zcwV 1 7 B wm_L_82 wi_X6_levelOf wv_X6_levelOf wn_X6 wcode_X6_levelOf rfl (by decide +kernel) ⟨(Nat.le_of_ble_eq_true rfl), (Nat.le_of_ble_eq_true rfl)⟩) rfl (zrecv B (zat (by decide) (z0 _ _ _)) cl6) zid rfl (Nat.le_of_ble_eq_true rfl) dL_levelOf_4 ⟨(Nat.le_of_ble_eq_true rfl), (Nat.le_of_ble_eq_true rfl)⟩ (fun X9 hX9 => ?_) (fun v9 u9 hv9 => ?_)
  · rcases xl_levelOf hX9 with rfl
    · have hW : (w_L_levelOf c w ea x) = (1, c, w) := by unfold w_L_levelOf; rw [hX9]; show (nI (lcd _ _), _) = _; rw [lcd_h]; rfl
      refine zx_catch (nm := "java/lang/IndexOutOfBoundsException") B [] ⟨0, 9, 12, 31⟩ [] hT (fun z hz => by cases hz) (by decide) (by decide) wc_L_31 (by decide +kernel) (fun q9 => ?_)
      refine zv_astore_n (pc := 12) (L' := [(3, .ref q9), (0, .ref (b + 0)), (1, .int x), (2, .ref (b + 124))]) B (by decide) rfl dL_levelOf_12 ?_
      refine zv_iconst (pc := 13) (v := 1) B rfl dL_levelOf_13 ?_
      exact zv_iret (pc := 14) B (1) hr (fun H hP => ⟨(), ⟨(by rw [hW]), (by rw [hW]; exact hg), (by rw [hW]; exact zfr.refl)⟩, (by rw [hW]; exact hP)⟩) (Nat.le_of_ble_eq_true rfl) (Nat.le_of_ble_eq_true rfl) dL_levelOf_14
  · obtain ⟨hu, rfl⟩ := hv9
    refine zv_st (st' := [.int u9, .int 0, .ref (b + 124)]) rfl ?_
    have hW : (w_L_levelOf c w ea x) = (0, c, va_up w 124 (u9).toInt64) := by unfold w_L_levelOf; rw [hu]
    refine zv_i2l (pc := 7) B dL_levelOf_7 ?_
    refine zs_last (pc := 8) B zid rfl dL_levelOf_8 ?_
    refine zv_goto (pc := 9) (tgt := 15) B rfl dL_levelOf_9 ?_
    refine zv_iconst (pc := 15) (v := 0) B rfl dL_levelOf_15 ?_
    exact zv_iret (pc := 16) B (0) hr (fun H hP => ⟨(), ⟨(by rw [hW]), (by rw [hW]; exact hg), (by rw [hW]; exact zfr.refl)⟩, (by rw [hW]; exact hP)⟩) (Nat.le_of_ble_eq_true rfl) (Nat.le_of_ble_eq_true rfl) dL_levelOf_16
def w_L_phaseOf (c : Nat → Nat → Int32) (w : Nat → Int64) (x : Int32) : Int32 × (Nat → Nat → Int32) × (Nat → Int64) := match m_X6_phaseOf c x with
  | .inl X9 => (nI (lcd ["java/lang/IndexOutOfBoundsException", "java/lang/IllegalStateException"] X9), c, w)
  | .inr u9 => (0, c, va_up w 124 (u9).toInt64)
set_option maxRecDepth 100000 in
set_option maxHeartbeats 300000 in
theorem k_L_phaseOf (l : Launch) (E : zE) (b : Nat) (c : Nat → Nat → Int32) (w : Nat → Int64) (en : Nat → Nat) (ea : Nat → Nat → Int32) (x : Int32) (hg : zG c) (hlf : l.stackTraces = false) : zM l yL_phaseOf (.codeWith yL_phaseOf cL_phaseOf 4 (some .int) [(0, 9, 12, 31), (0, 9, 15, 15)] :: zAll) (zRm 8 2 12) E b [.ref (b + 0), .int x, .ref (b + 124)] (zH E b c w en ea) (fun v9 (_ : Unit) => v9 = some (.int (w_L_phaseOf c w x).1) ∧ zG (w_L_phaseOf c w x).2.1 ∧ zfr 0 0 0 0 c (w_L_phaseOf c w x).2.1) (fun _ => zH E b ((w_L_phaseOf c w x).2.1) ((w_L_phaseOf c w x).2.2) en ea) 2 12 := by
  refine zM_ofW "ToneGraphLaw" (by decide) rfl rfl (Nat.le_of_ble_eq_true rfl) (L0 := [(0, .ref (b + 0)), (1, .int x), (2, .ref (b + 124))]) rfl ?_
  intro p e s m args below meth c9 B hr hT
  refine zv_aload_n (pc := 0) B 2 rfl dL_phaseOf_0 ?_
  refine zv_iconst (pc := 1) (v := 0) B rfl dL_phaseOf_1 ?_
  refine zv_aload_n (pc := 2) B 0 rfl dL_phaseOf_2 ?_
  refine zv_iload_n (pc := 3) B 1 rfl dL_phaseOf_3 ?_
  refine zv_callVX (pc := 4) (As := [.int x]) (rest := [.int 0, .ref (b + 124)]) B (k_X6_phaseOf l E b _ _ _ _  x hg hlf) (zcwV 1 7 B wm_L_85 wi_X6_phaseOf wv_X6_phaseOf wn_X6 wcode_X6_phaseOf rfl (by decide +kernel) ⟨(Nat.le_of_ble_eq_true rfl), (Nat.le_of_ble_eq_true rfl)⟩) rfl (zrecv B (zat (by decide) (z0 _ _ _)) cl6) zid rfl (Nat.le_of_ble_eq_true rfl) dL_phaseOf_4 ⟨(Nat.le_of_ble_eq_true rfl), (Nat.le_of_ble_eq_true rfl)⟩ (fun X9 hX9 => ?_) (fun v9 u9 hv9 => ?_)
  · rcases xl_phaseOf hX9 with rfl | rfl
    · have hW : (w_L_phaseOf c w x) = (1, c, w) := by unfold w_L_phaseOf; rw [hX9]; show (nI (lcd _ _), _) = _; rw [lcd_h]; rfl
      refine zx_catch (nm := "java/lang/IndexOutOfBoundsException") B [] ⟨0, 9, 12, 31⟩ [⟨0, 9, 15, 15⟩] hT (fun z hz => by cases hz) (by decide) (by decide) wc_L_31 (by decide +kernel) (fun q9 => ?_)
      refine zv_astore_n (pc := 12) (L' := [(3, .ref q9), (0, .ref (b + 0)), (1, .int x), (2, .ref (b + 124))]) B (by decide) rfl dL_phaseOf_12 ?_
      refine zv_iconst (pc := 13) (v := 1) B rfl dL_phaseOf_13 ?_
      exact zv_iret (pc := 14) B (1) hr (fun H hP => ⟨(), ⟨(by rw [hW]), (by rw [hW]; exact hg), (by rw [hW]; exact zfr.refl)⟩, (by rw [hW]; exact hP)⟩) (Nat.le_of_ble_eq_true rfl) (Nat.le_of_ble_eq_true rfl) dL_phaseOf_14
    · have hW : (w_L_phaseOf c w x) = (2, c, w) := by unfold w_L_phaseOf; rw [hX9]; show (nI (lcd _ _), _) = _; rw [lcd_s (by decide +kernel), lcd_h]; rfl
      refine zx_catch (nm := "java/lang/IllegalStateException") B [⟨0, 9, 12, 31⟩] ⟨0, 9, 15, 15⟩ [] hT (fun z hz => by rcases List.mem_cons.mp hz with rfl | hz; exact ⟨by decide, _, wc_L_31, by decide +kernel⟩; cases hz) (by decide) (by decide) wc_L_15 (by decide +kernel) (fun q9 => ?_)
      refine zv_astore_n (pc := 15) (L' := [(3, .ref q9), (0, .ref (b + 0)), (1, .int x), (2, .ref (b + 124))]) B (by decide) rfl dL_phaseOf_15 ?_
      refine zv_iconst (pc := 16) (v := 2) B rfl dL_phaseOf_16 ?_
      exact zv_iret (pc := 17) B (2) hr (fun H hP => ⟨(), ⟨(by rw [hW]), (by rw [hW]; exact hg), (by rw [hW]; exact zfr.refl)⟩, (by rw [hW]; exact hP)⟩) (Nat.le_of_ble_eq_true rfl) (Nat.le_of_ble_eq_true rfl) dL_phaseOf_17
  · obtain ⟨hu, rfl⟩ := hv9
    refine zv_st (st' := [.int u9, .int 0, .ref (b + 124)]) rfl ?_
    have hW : (w_L_phaseOf c w x) = (0, c, va_up w 124 (u9).toInt64) := by unfold w_L_phaseOf; rw [hu]
    refine zv_i2l (pc := 7) B dL_phaseOf_7 ?_
    refine zs_last (pc := 8) B zid rfl dL_phaseOf_8 ?_
    refine zv_goto (pc := 9) (tgt := 18) B rfl dL_phaseOf_9 ?_
    refine zv_iconst (pc := 18) (v := 0) B rfl dL_phaseOf_18 ?_
    exact zv_iret (pc := 19) B (0) hr (fun H hP => ⟨(), ⟨(by rw [hW]), (by rw [hW]; exact hg), (by rw [hW]; exact zfr.refl)⟩, (by rw [hW]; exact hP)⟩) (Nat.le_of_ble_eq_true rfl) (Nat.le_of_ble_eq_true rfl) dL_phaseOf_19
def w_L_play (c : Nat → Nat → Int32) (w : Nat → Int64) (ea : Nat → Nat → Int32) (x : Int32) : Int32 × (Nat → Nat → Int32) × (Nat → Int64) := match m_X6_play c w ea x with
  | .inl X9 => (nI (lcd ["java/lang/IllegalArgumentException"] X9), c, w)
  | .inr u9 => (0, u9.2.1, va_up u9.2.2 124 (u9.1).toInt64)
set_option maxRecDepth 100000 in
set_option maxHeartbeats 300000 in
theorem k_L_play (l : Launch) (E : zE) (b : Nat) (c : Nat → Nat → Int32) (w : Nat → Int64) (en : Nat → Nat) (ea : Nat → Nat → Int32) (x : Int32) (hg : zG c) (hlf : l.stackTraces = false) : zM l yL_play (.codeWith yL_play cL_play 4 (some .int) [(0, 9, 12, 13)] :: zAll) (zRm 8 1 6) E b [.ref (b + 0), .int x, .ref (b + 124)] (zH E b c w en ea) (fun v9 (_ : Unit) => v9 = some (.int (w_L_play c w ea x).1) ∧ zG (w_L_play c w ea x).2.1 ∧ zfr 34 110 34 34 c (w_L_play c w ea x).2.1) (fun _ => zH E b ((w_L_play c w ea x).2.1) ((w_L_play c w ea x).2.2) en ea) 1 6 := by
  refine zM_ofW "ToneGraphLaw" (by decide) rfl rfl (Nat.le_of_ble_eq_true rfl) (L0 := [(0, .ref (b + 0)), (1, .int x), (2, .ref (b + 124))]) rfl ?_
  intro p e s m args below meth c9 B hr hT
  refine zv_aload_n (pc := 0) B 2 rfl dL_play_0 ?_
  refine zv_iconst (pc := 1) (v := 0) B rfl dL_play_1 ?_
  refine zv_aload_n (pc := 2) B 0 rfl dL_play_2 ?_
  refine zv_iload_n (pc := 3) B 1 rfl dL_play_3 ?_
  refine zv_callVX (pc := 4) (As := [.int x]) (rest := [.int 0, .ref (b + 124)]) B (k_X6_play l E b _ _ _ _  x hg hlf) (zcwV 1 7 B wm_L_88 wi_X6_play wv_X6_play wn_X6 wcode_X6_play rfl (by decide +kernel) ⟨(Nat.le_of_ble_eq_true rfl), (Nat.le_of_ble_eq_true rfl)⟩) rfl (zrecv B (zat (by decide) (z0 _ _ _)) cl6) zid rfl (Nat.le_of_ble_eq_true rfl) dL_play_4 ⟨(Nat.le_of_ble_eq_true rfl), (Nat.le_of_ble_eq_true rfl)⟩ (fun X9 hX9 => ?_) (fun v9 u9 hv9 => ?_)
  · rcases xl_play hX9 with rfl
    · have hW : (w_L_play c w ea x) = (1, c, w) := by unfold w_L_play; rw [hX9]; show (nI (lcd _ _), _) = _; rw [lcd_h]; rfl
      refine zx_catch (nm := "java/lang/IllegalArgumentException") B [] ⟨0, 9, 12, 13⟩ [] hT (fun z hz => by cases hz) (by decide) (by decide) wc_L_13 (by decide +kernel) (fun q9 => ?_)
      refine zv_astore_n (pc := 12) (L' := [(3, .ref q9), (0, .ref (b + 0)), (1, .int x), (2, .ref (b + 124))]) B (by decide) rfl dL_play_12 ?_
      refine zv_iconst (pc := 13) (v := 1) B rfl dL_play_13 ?_
      exact zv_iret (pc := 14) B (1) hr (fun H hP => ⟨(), ⟨(by rw [hW]), (by rw [hW]; exact hg), (by rw [hW]; exact zfr.refl)⟩, (by rw [hW]; exact hP)⟩) (Nat.le_of_ble_eq_true rfl) (Nat.le_of_ble_eq_true rfl) dL_play_14
  · obtain ⟨hu, rfl, hF, hg9⟩ := hv9
    refine zv_st (st' := [.int u9.1, .int 0, .ref (b + 124)]) rfl ?_
    have hW : (w_L_play c w ea x) = (0, u9.2.1, va_up u9.2.2 124 (u9.1).toInt64) := by unfold w_L_play; rw [hu]
    refine zv_i2l (pc := 7) B dL_play_7 ?_
    refine zs_last (pc := 8) B zid rfl dL_play_8 ?_
    refine zv_goto (pc := 9) (tgt := 15) B rfl dL_play_9 ?_
    refine zv_iconst (pc := 15) (v := 0) B rfl dL_play_15 ?_
    exact zv_iret (pc := 16) B (0) hr (fun H hP => ⟨(), ⟨(by rw [hW]), (by rw [hW]; exact hg9), (by rw [hW]; exact hF)⟩, (by rw [hW]; exact hP)⟩) (Nat.le_of_ble_eq_true rfl) (Nat.le_of_ble_eq_true rfl) dL_play_16
def w_L_ahead (c : Nat → Nat → Int32) (w : Nat → Int64) (en : Nat → Nat) (ea : Nat → Nat → Int32) (x : Int32) : Int32 × (Nat → Nat → Int32) × (Nat → Int64) × (Nat → Nat) × (Nat → Nat → Int32) := match m_X6_ahead c en ea x with
  | .inl X9 => (nI (lcd ["java/lang/IllegalArgumentException"] X9), c, w, en, ea)
  | .inr u9 => (0, u9.2.1, va_up w 124 (u9.1).toInt64, u9.2.2.1, u9.2.2.2)
set_option maxRecDepth 100000 in
set_option maxHeartbeats 300000 in
theorem k_L_ahead (l : Launch) (E : zE) (b : Nat) (c : Nat → Nat → Int32) (w : Nat → Int64) (en : Nat → Nat) (ea : Nat → Nat → Int32) (x : Int32) (hg : zG c) (hlf : l.stackTraces = false) : zM l yL_ahead (.codeWith yL_ahead cL_ahead 4 (some .int) [(0, 9, 12, 13)] :: zAll) (zRm 8 1 6) E b [.ref (b + 0), .int x, .ref (b + 124)] (zH E b c w en ea) (fun v9 (_ : Unit) => v9 = some (.int (w_L_ahead c w en ea x).1) ∧ zG (w_L_ahead c w en ea x).2.1 ∧ zfr 70 106 108 109 c (w_L_ahead c w en ea x).2.1) (fun _ => zH E b ((w_L_ahead c w en ea x).2.1) ((w_L_ahead c w en ea x).2.2.1) ((w_L_ahead c w en ea x).2.2.2.1) ((w_L_ahead c w en ea x).2.2.2.2)) 1 6 := by
  refine zM_ofW "ToneGraphLaw" (by decide) rfl rfl (Nat.le_of_ble_eq_true rfl) (L0 := [(0, .ref (b + 0)), (1, .int x), (2, .ref (b + 124))]) rfl ?_
  intro p e s m args below meth c9 B hr hT
  refine zv_aload_n (pc := 0) B 2 rfl dL_ahead_0 ?_
  refine zv_iconst (pc := 1) (v := 0) B rfl dL_ahead_1 ?_
  refine zv_aload_n (pc := 2) B 0 rfl dL_ahead_2 ?_
  refine zv_iload_n (pc := 3) B 1 rfl dL_ahead_3 ?_
  refine zv_callVX (pc := 4) (As := [.int x]) (rest := [.int 0, .ref (b + 124)]) B (k_X6_ahead l E b _ _ _ _  x hg hlf) (zcwV 1 7 B wm_L_91 wi_X6_ahead wv_X6_ahead wn_X6 wcode_X6_ahead rfl (by decide +kernel) ⟨(Nat.le_of_ble_eq_true rfl), (Nat.le_of_ble_eq_true rfl)⟩) rfl (zrecv B (zat (by decide) (z0 _ _ _)) cl6) zid rfl (Nat.le_of_ble_eq_true rfl) dL_ahead_4 ⟨(Nat.le_of_ble_eq_true rfl), (Nat.le_of_ble_eq_true rfl)⟩ (fun X9 hX9 => ?_) (fun v9 u9 hv9 => ?_)
  · rcases xl_ahead hX9 with rfl
    · have hW : (w_L_ahead c w en ea x) = (1, c, w, en, ea) := by unfold w_L_ahead; rw [hX9]; show (nI (lcd _ _), _) = _; rw [lcd_h]; rfl
      refine zx_catch (nm := "java/lang/IllegalArgumentException") B [] ⟨0, 9, 12, 13⟩ [] hT (fun z hz => by cases hz) (by decide) (by decide) wc_L_13 (by decide +kernel) (fun q9 => ?_)
      refine zv_astore_n (pc := 12) (L' := [(3, .ref q9), (0, .ref (b + 0)), (1, .int x), (2, .ref (b + 124))]) B (by decide) rfl dL_ahead_12 ?_
      refine zv_iconst (pc := 13) (v := 1) B rfl dL_ahead_13 ?_
      exact zv_iret (pc := 14) B (1) hr (fun H hP => ⟨(), ⟨(by rw [hW]), (by rw [hW]; exact hg), (by rw [hW]; exact zfr.refl)⟩, (by rw [hW]; exact hP)⟩) (Nat.le_of_ble_eq_true rfl) (Nat.le_of_ble_eq_true rfl) dL_ahead_14
  · obtain ⟨hu, rfl, hF, hg9⟩ := hv9
    refine zv_st (st' := [.int u9.1, .int 0, .ref (b + 124)]) rfl ?_
    have hW : (w_L_ahead c w en ea x) = (0, u9.2.1, va_up w 124 (u9.1).toInt64, u9.2.2.1, u9.2.2.2) := by unfold w_L_ahead; rw [hu]
    refine zv_i2l (pc := 7) B dL_ahead_7 ?_
    refine zs_last (pc := 8) B zid rfl dL_ahead_8 ?_
    refine zv_goto (pc := 9) (tgt := 15) B rfl dL_ahead_9 ?_
    refine zv_iconst (pc := 15) (v := 0) B rfl dL_ahead_15 ?_
    exact zv_iret (pc := 16) B (0) hr (fun H hP => ⟨(), ⟨(by rw [hW]), (by rw [hW]; exact hg9), (by rw [hW]; exact hF)⟩, (by rw [hW]; exact hP)⟩) (Nat.le_of_ble_eq_true rfl) (Nat.le_of_ble_eq_true rfl) dL_ahead_16
def w_L_aheadByBlocks (c : Nat → Nat → Int32) (w : Nat → Int64) (en : Nat → Nat) (ea : Nat → Nat → Int32) (x : Int32) (y : Int32) : Int32 × (Nat → Nat → Int32) × (Nat → Int64) × (Nat → Nat) × (Nat → Nat → Int32) := match m_X6_aheadByBlocks c en ea x y with
  | .inl X9 => (nI (lcd ["java/lang/IllegalArgumentException"] X9), c, w, en, ea)
  | .inr u9 => (0, u9.2.1, va_up w 124 (u9.1).toInt64, u9.2.2.1, u9.2.2.2)
set_option maxRecDepth 100000 in
set_option maxHeartbeats 300000 in
theorem k_L_aheadByBlocks (l : Launch) (E : zE) (b : Nat) (c : Nat → Nat → Int32) (w : Nat → Int64) (en : Nat → Nat) (ea : Nat → Nat → Int32) (x : Int32) (y : Int32) (hg : zG c) (hlf : l.stackTraces = false) : zM l yL_aheadByBlocks (.codeWith yL_aheadByBlocks cL_aheadByBlocks 5 (some .int) [(0, 10, 13, 13)] :: zAll) (zRm 8 2 12) E b [.ref (b + 0), .int x, .int y, .ref (b + 124)] (zH E b c w en ea) (fun v9 (_ : Unit) => v9 = some (.int (w_L_aheadByBlocks c w en ea x y).1) ∧ zG (w_L_aheadByBlocks c w en ea x y).2.1 ∧ zfr 70 106 109 110 c (w_L_aheadByBlocks c w en ea x y).2.1) (fun _ => zH E b ((w_L_aheadByBlocks c w en ea x y).2.1) ((w_L_aheadByBlocks c w en ea x y).2.2.1) ((w_L_aheadByBlocks c w en ea x y).2.2.2.1) ((w_L_aheadByBlocks c w en ea x y).2.2.2.2)) 2 12 := by
  refine zM_ofW "ToneGraphLaw" (by decide) rfl rfl (Nat.le_of_ble_eq_true rfl) (L0 := [(0, .ref (b + 0)), (1, .int x), (2, .int y), (3, .ref (b + 124))]) rfl ?_
  intro p e s m args below meth c9 B hr hT
  refine zv_aload_n (pc := 0) B 3 rfl dL_aheadByBlocks_0 ?_
  refine zv_iconst (pc := 1) (v := 0) B rfl dL_aheadByBlocks_1 ?_
  refine zv_aload_n (pc := 2) B 0 rfl dL_aheadByBlocks_2 ?_
  refine zv_iload_n (pc := 3) B 1 rfl dL_aheadByBlocks_3 ?_
  refine zv_iload_n (pc := 4) B 2 rfl dL_aheadByBlocks_4 ?_
  refine zv_callVX (pc := 5) (As := [.int x, .int y]) (rest := [.int 0, .ref (b + 124)]) B (k_X6_aheadByBlocks l E b _ _ _ _  x y hg hlf) (zcwV 2 7 B wm_L_94 wi_X6_aheadByBlocks wv_X6_aheadByBlocks wn_X6 wcode_X6_aheadByBlocks rfl (by decide +kernel) ⟨(Nat.le_of_ble_eq_true rfl), (Nat.le_of_ble_eq_true rfl)⟩) rfl (zrecv B (zat (by decide) (z0 _ _ _)) cl6) zid rfl (Nat.le_of_ble_eq_true rfl) dL_aheadByBlocks_5 ⟨(Nat.le_of_ble_eq_true rfl), (Nat.le_of_ble_eq_true rfl)⟩ (fun X9 hX9 => ?_) (fun v9 u9 hv9 => ?_)
  · rcases xl_aheadByBlocks hX9 with rfl
    · have hW : (w_L_aheadByBlocks c w en ea x y) = (1, c, w, en, ea) := by unfold w_L_aheadByBlocks; rw [hX9]; show (nI (lcd _ _), _) = _; rw [lcd_h]; rfl
      refine zx_catch (nm := "java/lang/IllegalArgumentException") B [] ⟨0, 10, 13, 13⟩ [] hT (fun z hz => by cases hz) (by decide) (by decide) wc_L_13 (by decide +kernel) (fun q9 => ?_)
      refine zv_astore (pc := 13) (L' := [(4, .ref q9), (0, .ref (b + 0)), (1, .int x), (2, .int y), (3, .ref (b + 124))]) B (by decide) rfl dL_aheadByBlocks_13 ?_
      refine zv_iconst (pc := 15) (v := 1) B rfl dL_aheadByBlocks_15 ?_
      exact zv_iret (pc := 16) B (1) hr (fun H hP => ⟨(), ⟨(by rw [hW]), (by rw [hW]; exact hg), (by rw [hW]; exact zfr.refl)⟩, (by rw [hW]; exact hP)⟩) (Nat.le_of_ble_eq_true rfl) (Nat.le_of_ble_eq_true rfl) dL_aheadByBlocks_16
  · obtain ⟨hu, rfl, hF, hg9⟩ := hv9
    refine zv_st (st' := [.int u9.1, .int 0, .ref (b + 124)]) rfl ?_
    have hW : (w_L_aheadByBlocks c w en ea x y) = (0, u9.2.1, va_up w 124 (u9.1).toInt64, u9.2.2.1, u9.2.2.2) := by unfold w_L_aheadByBlocks; rw [hu]
    refine zv_i2l (pc := 8) B dL_aheadByBlocks_8 ?_
    refine zs_last (pc := 9) B zid rfl dL_aheadByBlocks_9 ?_
    refine zv_goto (pc := 10) (tgt := 17) B rfl dL_aheadByBlocks_10 ?_
    refine zv_iconst (pc := 17) (v := 0) B rfl dL_aheadByBlocks_17 ?_
    exact zv_iret (pc := 18) B (0) hr (fun H hP => ⟨(), ⟨(by rw [hW]), (by rw [hW]; exact hg9), (by rw [hW]; exact hF)⟩, (by rw [hW]; exact hP)⟩) (Nat.le_of_ble_eq_true rfl) (Nat.le_of_ble_eq_true rfl) dL_aheadByBlocks_18
def w_L_heard (c : Nat → Nat → Int32) (w : Nat → Int64) (x : Int32) : Int32 × (Nat → Nat → Int32) × (Nat → Int64) := match m_X6_heard c x with
  | .inl X9 => (nI (lcd ["java/lang/IllegalArgumentException", "java/util/NoSuchElementException"] X9), c, w)
  | .inr u9 => (0, c, va_up w 124 (u9).toInt64)
set_option maxRecDepth 100000 in
set_option maxHeartbeats 300000 in
theorem k_L_heard (l : Launch) (E : zE) (b : Nat) (c : Nat → Nat → Int32) (w : Nat → Int64) (en : Nat → Nat) (ea : Nat → Nat → Int32) (x : Int32) (hg : zG c) (hlf : l.stackTraces = false) : zM l yL_heard (.codeWith yL_heard cL_heard 4 (some .int) [(0, 9, 12, 13), (0, 9, 15, 38)] :: zAll) (zRm 8 2 12) E b [.ref (b + 0), .int x, .ref (b + 124)] (zH E b c w en ea) (fun v9 (_ : Unit) => v9 = some (.int (w_L_heard c w x).1) ∧ zG (w_L_heard c w x).2.1 ∧ zfr 0 0 0 0 c (w_L_heard c w x).2.1) (fun _ => zH E b ((w_L_heard c w x).2.1) ((w_L_heard c w x).2.2) en ea) 2 12 := by
  refine zM_ofW "ToneGraphLaw" (by decide) rfl rfl (Nat.le_of_ble_eq_true rfl) (L0 := [(0, .ref (b + 0)), (1, .int x), (2, .ref (b + 124))]) rfl ?_
  intro p e s m args below meth c9 B hr hT
  refine zv_aload_n (pc := 0) B 2 rfl dL_heard_0 ?_
  refine zv_iconst (pc := 1) (v := 0) B rfl dL_heard_1 ?_
  refine zv_aload_n (pc := 2) B 0 rfl dL_heard_2 ?_
  refine zv_iload_n (pc := 3) B 1 rfl dL_heard_3 ?_
  refine zv_callVX (pc := 4) (As := [.int x]) (rest := [.int 0, .ref (b + 124)]) B (k_X6_heard l E b _ _ _ _  x hg hlf) (zcwV 1 7 B wm_L_97 wi_X6_heard wv_X6_heard wn_X6 wcode_X6_heard rfl (by decide +kernel) ⟨(Nat.le_of_ble_eq_true rfl), (Nat.le_of_ble_eq_true rfl)⟩) rfl (zrecv B (zat (by decide) (z0 _ _ _)) cl6) zid rfl (Nat.le_of_ble_eq_true rfl) dL_heard_4 ⟨(Nat.le_of_ble_eq_true rfl), (Nat.le_of_ble_eq_true rfl)⟩ (fun X9 hX9 => ?_) (fun v9 u9 hv9 => ?_)
  · rcases xl_heard hX9 with rfl | rfl
    · have hW : (w_L_heard c w x) = (1, c, w) := by unfold w_L_heard; rw [hX9]; show (nI (lcd _ _), _) = _; rw [lcd_h]; rfl
      refine zx_catch (nm := "java/lang/IllegalArgumentException") B [] ⟨0, 9, 12, 13⟩ [⟨0, 9, 15, 38⟩] hT (fun z hz => by cases hz) (by decide) (by decide) wc_L_13 (by decide +kernel) (fun q9 => ?_)
      refine zv_astore_n (pc := 12) (L' := [(3, .ref q9), (0, .ref (b + 0)), (1, .int x), (2, .ref (b + 124))]) B (by decide) rfl dL_heard_12 ?_
      refine zv_iconst (pc := 13) (v := 1) B rfl dL_heard_13 ?_
      exact zv_iret (pc := 14) B (1) hr (fun H hP => ⟨(), ⟨(by rw [hW]), (by rw [hW]; exact hg), (by rw [hW]; exact zfr.refl)⟩, (by rw [hW]; exact hP)⟩) (Nat.le_of_ble_eq_true rfl) (Nat.le_of_ble_eq_true rfl) dL_heard_14
    · have hW : (w_L_heard c w x) = (2, c, w) := by unfold w_L_heard; rw [hX9]; show (nI (lcd _ _), _) = _; rw [lcd_s (by decide +kernel), lcd_h]; rfl
      refine zx_catch (nm := "java/util/NoSuchElementException") B [⟨0, 9, 12, 13⟩] ⟨0, 9, 15, 38⟩ [] hT (fun z hz => by rcases List.mem_cons.mp hz with rfl | hz; exact ⟨by decide, _, wc_L_13, by decide +kernel⟩; cases hz) (by decide) (by decide) wc_L_38 (by decide +kernel) (fun q9 => ?_)
      refine zv_astore_n (pc := 15) (L' := [(3, .ref q9), (0, .ref (b + 0)), (1, .int x), (2, .ref (b + 124))]) B (by decide) rfl dL_heard_15 ?_
      refine zv_iconst (pc := 16) (v := 2) B rfl dL_heard_16 ?_
      exact zv_iret (pc := 17) B (2) hr (fun H hP => ⟨(), ⟨(by rw [hW]), (by rw [hW]; exact hg), (by rw [hW]; exact zfr.refl)⟩, (by rw [hW]; exact hP)⟩) (Nat.le_of_ble_eq_true rfl) (Nat.le_of_ble_eq_true rfl) dL_heard_17
  · obtain ⟨hu, rfl⟩ := hv9
    refine zv_st (st' := [.int u9, .int 0, .ref (b + 124)]) rfl ?_
    have hW : (w_L_heard c w x) = (0, c, va_up w 124 (u9).toInt64) := by unfold w_L_heard; rw [hu]
    refine zv_i2l (pc := 7) B dL_heard_7 ?_
    refine zs_last (pc := 8) B zid rfl dL_heard_8 ?_
    refine zv_goto (pc := 9) (tgt := 18) B rfl dL_heard_9 ?_
    refine zv_iconst (pc := 18) (v := 0) B rfl dL_heard_18 ?_
    exact zv_iret (pc := 19) B (0) hr (fun H hP => ⟨(), ⟨(by rw [hW]), (by rw [hW]; exact hg), (by rw [hW]; exact zfr.refl)⟩, (by rw [hW]; exact hP)⟩) (Nat.le_of_ble_eq_true rfl) (Nat.le_of_ble_eq_true rfl) dL_heard_19
def w_L_outputOf (c : Nat → Nat → Int32) (w : Nat → Int64) (x : Int32) : Int32 × (Nat → Nat → Int32) × (Nat → Int64) := match m_X6_outputOf c x with
  | .inl X9 => (nI (lcd ["java/lang/IndexOutOfBoundsException"] X9), c, w)
  | .inr u9 => (0, c, va_up w 124 (u9).toInt64)
set_option maxRecDepth 100000 in
set_option maxHeartbeats 300000 in
theorem k_L_outputOf (l : Launch) (E : zE) (b : Nat) (c : Nat → Nat → Int32) (w : Nat → Int64) (en : Nat → Nat) (ea : Nat → Nat → Int32) (x : Int32) (hg : zG c) (hlf : l.stackTraces = false) : zM l yL_outputOf (.codeWith yL_outputOf cL_outputOf 4 (some .int) [(0, 9, 12, 31)] :: zAll) (zRm 8 1 6) E b [.ref (b + 0), .int x, .ref (b + 124)] (zH E b c w en ea) (fun v9 (_ : Unit) => v9 = some (.int (w_L_outputOf c w x).1) ∧ zG (w_L_outputOf c w x).2.1 ∧ zfr 0 0 0 0 c (w_L_outputOf c w x).2.1) (fun _ => zH E b ((w_L_outputOf c w x).2.1) ((w_L_outputOf c w x).2.2) en ea) 1 6 := by
  refine zM_ofW "ToneGraphLaw" (by decide) rfl rfl (Nat.le_of_ble_eq_true rfl) (L0 := [(0, .ref (b + 0)), (1, .int x), (2, .ref (b + 124))]) rfl ?_
  intro p e s m args below meth c9 B hr hT
  refine zv_aload_n (pc := 0) B 2 rfl dL_outputOf_0 ?_
  refine zv_iconst (pc := 1) (v := 0) B rfl dL_outputOf_1 ?_
  refine zv_aload_n (pc := 2) B 0 rfl dL_outputOf_2 ?_
  refine zv_iload_n (pc := 3) B 1 rfl dL_outputOf_3 ?_
  refine zv_callVX (pc := 4) (As := [.int x]) (rest := [.int 0, .ref (b + 124)]) B (k_X6_outputOf l E b _ _ _ _  x hg hlf) (zcwV 1 7 B wm_L_100 wi_X6_outputOf wv_X6_outputOf wn_X6 wcode_X6_outputOf rfl (by decide +kernel) ⟨(Nat.le_of_ble_eq_true rfl), (Nat.le_of_ble_eq_true rfl)⟩) rfl (zrecv B (zat (by decide) (z0 _ _ _)) cl6) zid rfl (Nat.le_of_ble_eq_true rfl) dL_outputOf_4 ⟨(Nat.le_of_ble_eq_true rfl), (Nat.le_of_ble_eq_true rfl)⟩ (fun X9 hX9 => ?_) (fun v9 u9 hv9 => ?_)
  · rcases xl_outputOf hX9 with rfl
    · have hW : (w_L_outputOf c w x) = (1, c, w) := by unfold w_L_outputOf; rw [hX9]; show (nI (lcd _ _), _) = _; rw [lcd_h]; rfl
      refine zx_catch (nm := "java/lang/IndexOutOfBoundsException") B [] ⟨0, 9, 12, 31⟩ [] hT (fun z hz => by cases hz) (by decide) (by decide) wc_L_31 (by decide +kernel) (fun q9 => ?_)
      refine zv_astore_n (pc := 12) (L' := [(3, .ref q9), (0, .ref (b + 0)), (1, .int x), (2, .ref (b + 124))]) B (by decide) rfl dL_outputOf_12 ?_
      refine zv_iconst (pc := 13) (v := 1) B rfl dL_outputOf_13 ?_
      exact zv_iret (pc := 14) B (1) hr (fun H hP => ⟨(), ⟨(by rw [hW]), (by rw [hW]; exact hg), (by rw [hW]; exact zfr.refl)⟩, (by rw [hW]; exact hP)⟩) (Nat.le_of_ble_eq_true rfl) (Nat.le_of_ble_eq_true rfl) dL_outputOf_14
  · obtain ⟨hu, rfl⟩ := hv9
    refine zv_st (st' := [.int u9, .int 0, .ref (b + 124)]) rfl ?_
    have hW : (w_L_outputOf c w x) = (0, c, va_up w 124 (u9).toInt64) := by unfold w_L_outputOf; rw [hu]
    refine zv_i2l (pc := 7) B dL_outputOf_7 ?_
    refine zs_last (pc := 8) B zid rfl dL_outputOf_8 ?_
    refine zv_goto (pc := 9) (tgt := 15) B rfl dL_outputOf_9 ?_
    refine zv_iconst (pc := 15) (v := 0) B rfl dL_outputOf_15 ?_
    exact zv_iret (pc := 16) B (0) hr (fun H hP => ⟨(), ⟨(by rw [hW]), (by rw [hW]; exact hg), (by rw [hW]; exact zfr.refl)⟩, (by rw [hW]; exact hP)⟩) (Nat.le_of_ble_eq_true rfl) (Nat.le_of_ble_eq_true rfl) dL_outputOf_16
def w_L_setWave (c : Nat → Nat → Int32) (w : Nat → Int64) (x : Int32) : Int32 × (Nat → Nat → Int32) × (Nat → Int64) := match m_X6_setWave c x with
  | .inl X9 => (nI (lcd ["java/lang/IllegalArgumentException"] X9), c, w)
  | .inr u9 => (0, u9.2, va_up w 124 (u9.1).toInt64)
set_option maxRecDepth 100000 in
set_option maxHeartbeats 300000 in
theorem k_L_setWave (l : Launch) (E : zE) (b : Nat) (c : Nat → Nat → Int32) (w : Nat → Int64) (en : Nat → Nat) (ea : Nat → Nat → Int32) (x : Int32) (hx : zn x ≤ 65535) (hg : zG c) (hlf : l.stackTraces = false) : zM l yL_setWave (.codeWith yL_setWave cL_setWave 4 (some .int) [(0, 9, 12, 13)] :: zAll) (zRm 8 1 6) E b [.ref (b + 0), .int x, .ref (b + 124)] (zH E b c w en ea) (fun v9 (_ : Unit) => v9 = some (.int (w_L_setWave c w x).1) ∧ zG (w_L_setWave c w x).2.1 ∧ zfr 0 1 0 0 c (w_L_setWave c w x).2.1) (fun _ => zH E b ((w_L_setWave c w x).2.1) ((w_L_setWave c w x).2.2) en ea) 1 6 := by
  refine zM_ofW "ToneGraphLaw" (by decide) rfl rfl (Nat.le_of_ble_eq_true rfl) (L0 := [(0, .ref (b + 0)), (1, .int x), (2, .ref (b + 124))]) rfl ?_
  intro p e s m args below meth c9 B hr hT
  refine zv_aload_n (pc := 0) B 2 rfl dL_setWave_0 ?_
  refine zv_iconst (pc := 1) (v := 0) B rfl dL_setWave_1 ?_
  refine zv_aload_n (pc := 2) B 0 rfl dL_setWave_2 ?_
  refine zv_iload_n (pc := 3) B 1 rfl dL_setWave_3 ?_
  refine zv_callVX (pc := 4) (As := [.int x]) (rest := [.int 0, .ref (b + 124)]) B (k_X6_setWave l E b _ _ _ _  x hx hg hlf) (zcwV 1 7 B wm_L_62 wi_X6_setWave wv_X6_setWave wn_X6 wcode_X6_setWave rfl (by decide +kernel) ⟨(Nat.le_of_ble_eq_true rfl), (Nat.le_of_ble_eq_true rfl)⟩) rfl (zrecv B (zat (by decide) (z0 _ _ _)) cl6) zid rfl (Nat.le_of_ble_eq_true rfl) dL_setWave_4 ⟨(Nat.le_of_ble_eq_true rfl), (Nat.le_of_ble_eq_true rfl)⟩ (fun X9 hX9 => ?_) (fun v9 u9 hv9 => ?_)
  · rcases xl_setWave hX9 with rfl
    · have hW : (w_L_setWave c w x) = (1, c, w) := by unfold w_L_setWave; rw [hX9]; show (nI (lcd _ _), _) = _; rw [lcd_h]; rfl
      refine zx_catch (nm := "java/lang/IllegalArgumentException") B [] ⟨0, 9, 12, 13⟩ [] hT (fun z hz => by cases hz) (by decide) (by decide) wc_L_13 (by decide +kernel) (fun q9 => ?_)
      refine zv_astore_n (pc := 12) (L' := [(3, .ref q9), (0, .ref (b + 0)), (1, .int x), (2, .ref (b + 124))]) B (by decide) rfl dL_setWave_12 ?_
      refine zv_iconst (pc := 13) (v := 1) B rfl dL_setWave_13 ?_
      exact zv_iret (pc := 14) B (1) hr (fun H hP => ⟨(), ⟨(by rw [hW]), (by rw [hW]; exact hg), (by rw [hW]; exact zfr.refl)⟩, (by rw [hW]; exact hP)⟩) (Nat.le_of_ble_eq_true rfl) (Nat.le_of_ble_eq_true rfl) dL_setWave_14
  · obtain ⟨hu, rfl, hF, hg9⟩ := hv9
    refine zv_st (st' := [.int u9.1, .int 0, .ref (b + 124)]) rfl ?_
    have hW : (w_L_setWave c w x) = (0, u9.2, va_up w 124 (u9.1).toInt64) := by unfold w_L_setWave; rw [hu]
    refine zv_i2l (pc := 7) B dL_setWave_7 ?_
    refine zs_last (pc := 8) B zid rfl dL_setWave_8 ?_
    refine zv_goto (pc := 9) (tgt := 15) B rfl dL_setWave_9 ?_
    refine zv_iconst (pc := 15) (v := 0) B rfl dL_setWave_15 ?_
    exact zv_iret (pc := 16) B (0) hr (fun H hP => ⟨(), ⟨(by rw [hW]), (by rw [hW]; exact hg9), (by rw [hW]; exact hF)⟩, (by rw [hW]; exact hP)⟩) (Nat.le_of_ble_eq_true rfl) (Nat.le_of_ble_eq_true rfl) dL_setWave_16