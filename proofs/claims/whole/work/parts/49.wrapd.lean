theorem qs_n {c : Nat → Nat → Int32} {u : UInt32} (h : m_X6_quietShare c = .inr u) : vf_n32 u := by
  unfold m_X6_quietShare xb at h
  split at h
  · cases h
  · rename_i u9 h9
    cases h
    exact zfp_ff _ (rs_ok h9)
theorem xl_setEnvelope {ea : Nat → Nat → Int32} {x y z u : Int32} {X : String} (h : m_X6_setEnvelope ea x y z u = .inl X) : X = "java/lang/IllegalArgumentException" := by
  unfold m_X6_setEnvelope at h
  rcases xb_cases h with h | ⟨_, _, h⟩
  · have h9 := xl_refuseOutside h
    subst h9
    exact rfl
  · rcases xb_cases h with h | ⟨_, _, h⟩
    · have h9 := xl_refuseOutside h
      subst h9
      exact rfl
    · rcases xb_cases h with h | ⟨_, _, h⟩
      · have h9 := xl_refuseOutside h
        subst h9
        exact rfl
      · rcases xb_cases h with h | ⟨_, _, h⟩
        · have h9 := xl_refuseOutside h
          subst h9
          exact rfl
        · cases h
def w_L_setEnvelope (w : Nat → Int64) (ea : Nat → Nat → Int32) (x y z u : Int32) : Int32 × (Nat → Int64) := match m_X6_setEnvelope ea x y z u with
  | .inl X9 => (nI (lcd ["java/lang/IllegalArgumentException"] X9), w)
  | .inr u9 => (0, va_up w 124 u9.toInt64)
set_option maxRecDepth 100000 in
set_option maxHeartbeats 300000 in
theorem k_L_setEnvelope (l : Launch) (E : zE) (b : Nat) (c : Nat → Nat → Int32) (w : Nat → Int64) (en : Nat → Nat) (ea : Nat → Nat → Int32) (x y z u : Int32) (hg : zG c) (hlf : l.stackTraces = false) : zM l yL_setEnvelope (.codeWith yL_setEnvelope cL_setEnvelope 7 (some .int) [(0, 14, 17, 13)] :: zAll) (zRm 8 5 28) E b [.ref (b + 0), .int x, .int y, .int z, .int u, .ref (b + 124)] (zH E b c w en ea) (fun v9 (q9 : Option Nat) => v9 = some (.int (w_L_setEnvelope w ea x y z u).1) ∧ (q9 = none ↔ ∃ X9, m_X6_setEnvelope ea x y z u = .inl X9)) (fun (q9 : Option Nat) => match q9 with | none => zH E b c (w_L_setEnvelope w ea x y z u).2 en ea | some a9 => zH E b c (w_L_setEnvelope w ea x y z u).2 (va_up en 0 a9) (va_up ea 0 (zq4 x y z u))) 5 28 := by
  refine zM_ofW "ToneGraphLaw" (by decide) rfl rfl (Nat.le_of_ble_eq_true rfl) (L0 := [(0, .ref (b + 0)), (1, .int x), (2, .int y), (3, .int z), (4, .int u), (5, .ref (b + 124))]) rfl ?_
  intro p e s m args below meth c9 B hr hT
  refine zv_aload (pc := 0) B 5 rfl dL_setEnvelope_0 ?_
  refine zv_iconst (pc := 2) (v := 0) B rfl dL_setEnvelope_2 ?_
  refine zv_aload_n (pc := 3) B 0 rfl dL_setEnvelope_3 ?_
  refine zv_iload_n (pc := 4) B 1 rfl dL_setEnvelope_4 ?_
  refine zv_iload_n (pc := 5) B 2 rfl dL_setEnvelope_5 ?_
  refine zv_iload_n (pc := 6) B 3 rfl dL_setEnvelope_6 ?_
  refine zv_iload (pc := 7) B 4 rfl dL_setEnvelope_7 ?_
  refine zv_callVX (pc := 9) (As := [.int x, .int y, .int z, .int u]) (rest := [.int 0, .ref (b + 124)]) B (k_X6_setEnvelope l E b _ _ _ _  x y z u hg hlf) (zcwV 4 7 B wm_L_66 wi_X6_setEnvelope wv_X6_setEnvelope wn_X6 wcode_X6_setEnvelope rfl (by decide +kernel) ⟨(Nat.le_of_ble_eq_true rfl), (Nat.le_of_ble_eq_true rfl)⟩) rfl (zrecv B (zat (by decide) (z0 _ _ _)) cl6) zid rfl (Nat.le_of_ble_eq_true rfl) dL_setEnvelope_9 ⟨(Nat.le_of_ble_eq_true rfl), (Nat.le_of_ble_eq_true rfl)⟩ (fun X9 hX9 => ?_) (fun v9 u9 hv9 => ?_)
  · have h19 : m_X6_setEnvelope ea x y z u = .inl X9 := hX9
    rcases xl_setEnvelope hX9 with rfl
    have hW : (w_L_setEnvelope w ea x y z u) = (1, w) := by unfold w_L_setEnvelope; rw [hX9]; show (nI (lcd _ _), _) = _; rw [lcd_h]; rfl
    refine zx_catch (nm := "java/lang/IllegalArgumentException") B [] ⟨0, 14, 17, 13⟩ [] hT (fun z hz => by cases hz) (by decide) (by decide) wc_L_13 (by decide +kernel) (fun q9 => ?_)
    refine zv_astore (pc := 17) (L' := [(6, .ref q9), (0, .ref (b + 0)), (1, .int x), (2, .int y), (3, .int z), (4, .int u), (5, .ref (b + 124))]) B (by decide) rfl dL_setEnvelope_17 ?_
    refine zv_iconst (pc := 19) (v := 1) B rfl dL_setEnvelope_19 ?_
    exact zv_iret (pc := 20) B (1) hr (fun H hP => ⟨none, ⟨(by rw [hW]), ⟨fun _ => ⟨_, h19⟩, fun _ => rfl⟩⟩, (by rw [hW]; exact hP)⟩) (Nat.le_of_ble_eq_true rfl) (Nat.le_of_ble_eq_true rfl) dL_setEnvelope_20
  · obtain ⟨hu, rfl⟩ := hv9
    refine zv_st (st' := [.int u9.1, .int 0, .ref (b + 124)]) rfl ?_
    have hW : (w_L_setEnvelope w ea x y z u) = (0, va_up w 124 u9.1.toInt64) := by unfold w_L_setEnvelope; rw [hu]
    refine zv_i2l (pc := 12) B dL_setEnvelope_12 ?_
    refine zs_last (pc := 13) B zid rfl dL_setEnvelope_13 ?_
    refine zv_goto (pc := 14) (tgt := 21) B rfl dL_setEnvelope_14 ?_
    refine zv_iconst (pc := 21) (v := 0) B rfl dL_setEnvelope_21 ?_
    exact zv_iret (pc := 22) B (0) hr (fun H hP => ⟨some u9.2, ⟨(by rw [hW]), ⟨fun h => (by cases h), fun h => (by obtain ⟨X9, h⟩ := h; rw [hu] at h; cases h)⟩⟩, (by rw [hW]; exact hP)⟩) (Nat.le_of_ble_eq_true rfl) (Nat.le_of_ble_eq_true rfl) dL_setEnvelope_22
theorem xl_meanEnergy {c : Nat → Nat → Int32} {w : Nat → Int64} {X : String} (h : m_X6_meanEnergy c w = .inl X) : X = "java/lang/ArithmeticException" := by
  unfold m_X6_meanEnergy at h
  rcases xb_cases h with h | ⟨_, _, h⟩
  · have h9 := xl_refuseSilence h
    subst h9
    exact rfl
  · cases h
def w_L_meanEnergy (c : Nat → Nat → Int32) (w : Nat → Int64) : Int32 × (Nat → Int64) := match m_X6_meanEnergy c w with
  | .inl X9 => (nI (lcd ["java/lang/ArithmeticException"] X9), w)
  | .inr u9 => (0, va_up w 125 u9.toInt64)
set_option maxRecDepth 100000 in
set_option maxHeartbeats 300000 in
theorem k_L_meanEnergy (l : Launch) (E : zE) (b : Nat) (c : Nat → Nat → Int32) (w : Nat → Int64) (en : Nat → Nat) (ea : Nat → Nat → Int32) (hg : zG c) (hlf : l.stackTraces = false) : zM l yL_meanEnergy (.codeWith yL_meanEnergy cL_meanEnergy 3 (some .int) [(0, 7, 10, 107)] :: zAll) (zRm 8 1 6) E b [.ref (b + 0), .ref (b + 125)] (zH E b c w en ea) (fun v9 (_ : Unit) => v9 = some (.int (w_L_meanEnergy c w).1)) (fun _ => zH E b c (w_L_meanEnergy c w).2 en ea) 1 6 := by
  refine zM_ofW "ToneGraphLaw" (by decide) rfl rfl (Nat.le_of_ble_eq_true rfl) (L0 := [(0, .ref (b + 0)), (1, .ref (b + 125))]) rfl ?_
  intro p e s m args below meth c9 B hr hT
  refine zv_aload_n (pc := 0) B 1 rfl dL_meanEnergy_0 ?_
  refine zv_iconst (pc := 1) (v := 0) B rfl dL_meanEnergy_1 ?_
  refine zv_aload_n (pc := 2) B 0 rfl dL_meanEnergy_2 ?_
  refine zv_callVX (pc := 3) (As := []) (rest := [.int 0, .ref (b + 125)]) B (k_X6_meanEnergy l E b _ _ _ _  hg hlf) (zcwV 0 7 B wm_L_103 wi_X6_meanEnergy wv_X6_meanEnergy wn_X6 wcode_X6_meanEnergy rfl (by decide +kernel) ⟨(Nat.le_of_ble_eq_true rfl), (Nat.le_of_ble_eq_true rfl)⟩) rfl (zrecv B (zat (by decide) (z0 _ _ _)) cl6) zid rfl (Nat.le_of_ble_eq_true rfl) dL_meanEnergy_3 ⟨(Nat.le_of_ble_eq_true rfl), (Nat.le_of_ble_eq_true rfl)⟩ (fun X9 hX9 => ?_) (fun v9 u9 hv9 => ?_)
  · rcases xl_meanEnergy hX9 with rfl
    have hW : (w_L_meanEnergy c w) = (1, w) := by unfold w_L_meanEnergy; rw [hX9]; show (nI (lcd _ _), _) = _; rw [lcd_h]; rfl
    refine zx_catch (nm := "java/lang/ArithmeticException") B [] ⟨0, 7, 10, 107⟩ [] hT (fun z hz => by cases hz) (by decide) (by decide) wc_L_107 (by decide +kernel) (fun q9 => ?_)
    refine zv_astore_n (pc := 10) (L' := [(2, .ref q9), (0, .ref (b + 0)), (1, .ref (b + 125))]) B (by decide) rfl dL_meanEnergy_10 ?_
    refine zv_iconst (pc := 11) (v := 1) B rfl dL_meanEnergy_11 ?_
    exact zv_iret (pc := 12) B (1) hr (fun H hP => ⟨(), (by rw [hW]), (by rw [hW]; exact hP)⟩) (Nat.le_of_ble_eq_true rfl) (Nat.le_of_ble_eq_true rfl) dL_meanEnergy_12
  · obtain ⟨hu, rfl⟩ := hv9
    refine zv_st (st' := [.double u9, .int 0, .ref (b + 125)]) rfl ?_
    have hW : (w_L_meanEnergy c w) = (0, va_up w 125 u9.toInt64) := by unfold w_L_meanEnergy; rw [hu]
    refine zs_dast (pc := 6) B zid rfl dL_meanEnergy_6 ?_
    refine zv_goto (pc := 7) (tgt := 13) B rfl dL_meanEnergy_7 ?_
    refine zv_iconst (pc := 13) (v := 0) B rfl dL_meanEnergy_13 ?_
    exact zv_iret (pc := 14) B (0) hr (fun H hP => ⟨(), (by rw [hW]), (by rw [hW]; exact hP)⟩) (Nat.le_of_ble_eq_true rfl) (Nat.le_of_ble_eq_true rfl) dL_meanEnergy_14
theorem xl_quietShare {c : Nat → Nat → Int32} {X : String} (h : m_X6_quietShare c = .inl X) : X = "java/lang/ArithmeticException" := by
  unfold m_X6_quietShare at h
  rcases xb_cases h with h | ⟨_, _, h⟩
  · have h9 := xl_refuseSilence h
    subst h9
    exact rfl
  · cases h
def w_L_quietShare (c : Nat → Nat → Int32) (w : Nat → Int64) : Int32 × (Nat → Int64) := match m_X6_quietShare c with
  | .inl X9 => (nI (lcd ["java/lang/ArithmeticException"] X9), w)
  | .inr u9 => (0, va_up w 125 (FP.f2d u9).toInt64)
set_option maxRecDepth 100000 in
set_option maxHeartbeats 300000 in
theorem k_L_quietShare (l : Launch) (E : zE) (b : Nat) (c : Nat → Nat → Int32) (w : Nat → Int64) (en : Nat → Nat) (ea : Nat → Nat → Int32) (hg : zG c) (hlf : l.stackTraces = false) : zM l yL_quietShare (.codeWith yL_quietShare cL_quietShare 3 (some .int) [(0, 8, 11, 107)] :: zAll) (zRm 8 1 6) E b [.ref (b + 0), .ref (b + 125)] (zH E b c w en ea) (fun v9 (_ : Unit) => v9 = some (.int (w_L_quietShare c w).1)) (fun _ => zH E b c (w_L_quietShare c w).2 en ea) 1 6 := by
  refine zM_ofW "ToneGraphLaw" (by decide) rfl rfl (Nat.le_of_ble_eq_true rfl) (L0 := [(0, .ref (b + 0)), (1, .ref (b + 125))]) rfl ?_
  intro p e s m args below meth c9 B hr hT
  refine zv_aload_n (pc := 0) B 1 rfl dL_quietShare_0 ?_
  refine zv_iconst (pc := 1) (v := 0) B rfl dL_quietShare_1 ?_
  refine zv_aload_n (pc := 2) B 0 rfl dL_quietShare_2 ?_
  refine zv_callVX (pc := 3) (As := []) (rest := [.int 0, .ref (b + 125)]) B (k_X6_quietShare l E b _ _ _ _  hg hlf) (zcwV 0 7 B wm_L_109 wi_X6_quietShare wv_X6_quietShare wn_X6 wcode_X6_quietShare rfl (by decide +kernel) ⟨(Nat.le_of_ble_eq_true rfl), (Nat.le_of_ble_eq_true rfl)⟩) rfl (zrecv B (zat (by decide) (z0 _ _ _)) cl6) zid rfl (Nat.le_of_ble_eq_true rfl) dL_quietShare_3 ⟨(Nat.le_of_ble_eq_true rfl), (Nat.le_of_ble_eq_true rfl)⟩ (fun X9 hX9 => ?_) (fun v9 u9 hv9 => ?_)
  · rcases xl_quietShare hX9 with rfl
    have hW : (w_L_quietShare c w) = (1, w) := by unfold w_L_quietShare; rw [hX9]; show (nI (lcd _ _), _) = _; rw [lcd_h]; rfl
    refine zx_catch (nm := "java/lang/ArithmeticException") B [] ⟨0, 8, 11, 107⟩ [] hT (fun z hz => by cases hz) (by decide) (by decide) wc_L_107 (by decide +kernel) (fun q9 => ?_)
    refine zv_astore_n (pc := 11) (L' := [(2, .ref q9), (0, .ref (b + 0)), (1, .ref (b + 125))]) B (by decide) rfl dL_quietShare_11 ?_
    refine zv_iconst (pc := 12) (v := 1) B rfl dL_quietShare_12 ?_
    exact zv_iret (pc := 13) B (1) hr (fun H hP => ⟨(), (by rw [hW]), (by rw [hW]; exact hP)⟩) (Nat.le_of_ble_eq_true rfl) (Nat.le_of_ble_eq_true rfl) dL_quietShare_13
  · obtain ⟨hu, rfl⟩ := hv9
    refine zv_st (st' := [.float u9, .int 0, .ref (b + 125)]) rfl ?_
    have hW : (w_L_quietShare c w) = (0, va_up w 125 (FP.f2d u9).toInt64) := by unfold w_L_quietShare; rw [hu]
    refine zv_f2d (pc := 6) B (zfp_fd (qs_n hu)) dL_quietShare_6 ?_
    refine zs_dast (pc := 7) B zid rfl dL_quietShare_7 ?_
    refine zv_goto (pc := 8) (tgt := 14) B rfl dL_quietShare_8 ?_
    refine zv_iconst (pc := 14) (v := 0) B rfl dL_quietShare_14 ?_
    exact zv_iret (pc := 15) B (0) hr (fun H hP => ⟨(), (by rw [hW]), (by rw [hW]; exact hP)⟩) (Nat.le_of_ble_eq_true rfl) (Nat.le_of_ble_eq_true rfl) dL_quietShare_15