def m_X6_step (c : Nat → Nat → Int32) (w : Nat → Int64) (ea : Nat → Nat → Int32) : Int32 × (Nat → Nat → Int32) × (Nat → Int64) := ((m_X6_perform c w ea 1 1).1, (m_X6_perform c w ea 1 1).2.1, (m_X6_perform c w ea 1 1).2.2)
set_option maxRecDepth 100000 in
set_option maxHeartbeats 400000 in
theorem k_X6_step (l : Launch) (E : zE) (b : Nat) (c : Nat → Nat → Int32) (w : Nat → Int64) (en : Nat → Nat) (ea : Nat → Nat → Int32)  (hg : zG c) : zM l yX6_step (.code yX6_step cX6_step 1 (some .int) :: zAll) (zRm 7 0 0) E b [.ref (b + 0)] (zH E b c w en ea) (fun v9 (_ : Unit) => v9 = some (.int (m_X6_step c w ea).1) ∧ zfr 34 110 34 34 c (m_X6_step c w ea).2.1 ∧ zG (m_X6_step c w ea).2.1) (fun _ => zH E b ((m_X6_step c w ea).2.1) ((m_X6_step c w ea).2.2) en ea) 0 0 := by
  refine zM_of "ToneGraph" (by decide) rfl rfl (Nat.le_of_ble_eq_true rfl) (L0 := [(0, .ref (b + 0))]) rfl ?_
  intro p e s m args below meth c9 B hr hname
  refine zv_aload_n (pc := 0) B 0 rfl dX6_step_0 ?_
  refine zv_iconst (pc := 1) (v := 1) B rfl dX6_step_1 ?_
  refine zv_iconst (pc := 2) (v := 1) B rfl dX6_step_2 ?_
  refine zv_st (st' := [.int (nI 1), .int (nI 1), .ref (b + 0)]) rfl ?_
  refine zv_callV (pc := 3) (As := [.int (nI 1), .int (nI 1)]) (rest := []) B (k_X6_perform (z := 1) (y := 1) l E b _ _ _ _  (by decide) (by decide) (by decide) hg) (zcwV 2 6 B wm_X6_223 wi_X6_perform wv_X6_perform wn_X6 wcode_X6_perform rfl (by decide +kernel) ⟨(Nat.le_of_ble_eq_true rfl), (Nat.le_of_ble_eq_true rfl)⟩) rfl (zrecv B (zat (by decide) (z0 _ _ _)) cl6) zid rfl (Nat.le_of_ble_eq_true rfl) dX6_step_3 ⟨(Nat.le_of_ble_eq_true rfl), (Nat.le_of_ble_eq_true rfl)⟩ (fun v9 u9 hv9 => ?_)
  obtain ⟨rfl, hF2001, hg2001⟩ := hv9
  refine zv_st (st' := [.int ((m_X6_perform c w ea 1 1).1)]) rfl ?_
  have hE2 : ((m_X6_perform c w ea 1 1).1, (m_X6_perform c w ea 1 1).2.1, (m_X6_perform c w ea 1 1).2.2) = m_X6_step c w ea := (by unfold m_X6_step; rfl)
  exact zv_iret (pc := 6) B ((m_X6_perform c w ea 1 1).1) hr (fun H hP => ⟨(), ⟨(by rw [(zp3 hE2).1]), (by rw [(zp3 hE2).2.1]; exact (zfr.call zfr.refl hF2001 (by omega))), (by rw [(zp3 hE2).2.1]; exact hg2001)⟩, (by rw [(zp3 hE2).2.1, (zp3 hE2).2.2]; exact hP)⟩) (Nat.le_of_ble_eq_true rfl) (Nat.le_of_ble_eq_true rfl) dX6_step_6

