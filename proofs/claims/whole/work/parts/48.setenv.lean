set_option maxRecDepth 100000 in
theorem k_X2_initH (l : Launch) (E : zE) (b : Nat) (c : Nat → Nat → Int32) (w : Nat → Int64) (en : Nat → Nat) (ea : Nat → Nat → Int32) (a : Nat) (x y z u : Int32) : zM l yX2_init (.code yX2_init cX2_init 5 none :: zAll) (zRm 1 0 0) E b [.ref a, .int x, .int y, .int z, .int u] (zHF E b c w en ea a [.int 0, .int 0, .int 0, .int 0]) (fun v9 (_ : Unit) => v9 = none) (fun _ => zHF E b c w en ea a [.int x, .int y, .int z, .int u]) 0 0 := by
  refine zM_of "ToneGraph$Envelope" (by decide) rfl rfl (Nat.le_of_ble_eq_true rfl) (L0 := [(0, .ref a), (1, .int x), (2, .int y), (3, .int z), (4, .int u)]) rfl ?_
  intro p e s m args below meth c9 B hr hname
  refine zv_aload_n (pc := 0) B 0 rfl dX2_init_0 ?_
  refine zp_objI B wm_X2_1 wi_Object_init wcode_Object_init dX2_init_1 (Nat.le_of_ble_eq_true rfl) (Nat.le_of_ble_eq_true rfl) ?_
  refine zv_aload_n (pc := 4) B 0 rfl dX2_init_4 ?_
  refine zv_iload_n (pc := 5) B 1 rfl dX2_init_5 ?_
  refine zn_putF (f := 0) (fs := [.int 0, .int 0, .int 0, .int 0]) B hname (by decide) wf_X2_7 rfl rfl rfl rfl rfl (Nat.le_of_ble_eq_true rfl) dX2_init_6 ?_
  refine zv_aload_n (pc := 9) B 0 rfl dX2_init_9 ?_
  refine zv_iload_n (pc := 10) B 2 rfl dX2_init_10 ?_
  refine zn_putF (f := 1) (fs := [.int x, .int 0, .int 0, .int 0]) B hname (by decide) wf_X2_13 rfl rfl rfl rfl rfl (Nat.le_of_ble_eq_true rfl) dX2_init_11 ?_
  refine zv_aload_n (pc := 14) B 0 rfl dX2_init_14 ?_
  refine zv_iload_n (pc := 15) B 3 rfl dX2_init_15 ?_
  refine zn_putF (f := 2) (fs := [.int x, .int y, .int 0, .int 0]) B hname (by decide) wf_X2_16 rfl rfl rfl rfl rfl (Nat.le_of_ble_eq_true rfl) dX2_init_16 ?_
  refine zv_aload_n (pc := 19) B 0 rfl dX2_init_19 ?_
  refine zv_iload (pc := 20) B 4 rfl dX2_init_20 ?_
  refine zn_putF (f := 3) (fs := [.int x, .int y, .int z, .int 0]) B hname (by decide) wf_X2_19 rfl rfl rfl rfl rfl (Nat.le_of_ble_eq_true rfl) dX2_init_22 ?_
  exact zv_vret (pc := 25) B hr (fun H hP => ⟨(), rfl, hP⟩) (Nat.le_of_ble_eq_true rfl) (Nat.le_of_ble_eq_true rfl) dX2_init_25
def m_X6_setEnvelope (ea : Nat → Nat → Int32) (x y z u : Int32) : String ⊕ Int32 := xb (m_X6_refuseOutside x 0 200) (fun u1 => xb (m_X6_refuseOutside y 0 200) (fun u2 => xb (m_X6_refuseOutside z 0 1000) (fun u3 => xb (m_X6_refuseOutside u 0 200) (fun u4 => .inr (ea 0 2)))))
set_option maxRecDepth 100000 in
set_option maxHeartbeats 400000 in
theorem k_X6_setEnvelope (l : Launch) (E : zE) (b : Nat) (c : Nat → Nat → Int32) (w : Nat → Int64) (en : Nat → Nat) (ea : Nat → Nat → Int32) (x y z u : Int32) (hg : zG c) (hlf : l.stackTraces = false) : zX l yX6_setEnvelope (.code yX6_setEnvelope cX6_setEnvelope 6 (some .int) :: zAll) (zRm 7 5 28) E b [.ref (b + 0), .int x, .int y, .int z, .int u] (zH E b c w en ea) (fun v9 (u9 : Int32 × Nat) => (m_X6_setEnvelope ea x y z u) = .inr u9.1 ∧ v9 = some (.int u9.1)) (fun (u9 : Int32 × Nat) => zH E b c w (va_up en 0 u9.2) (va_up ea 0 (zq4 x y z u))) (fun X9 => (m_X6_setEnvelope ea x y z u) = .inl X9) 5 28 := by
  refine zX_of "ToneGraph" (by decide) rfl rfl (Nat.le_of_ble_eq_true rfl) (L0 := [(0, .ref (b + 0)), (1, .int x), (2, .int y), (3, .int z), (4, .int u)]) rfl ?_
  intro p e s m args below meth c9 B hr htab
  refine zv_iload_n (pc := 0) B 1 rfl dX6_setEnvelope_0 ?_
  refine zv_iconst (pc := 1) (v := 0) B rfl dX6_setEnvelope_1 ?_
  refine zv_sipush (pc := 2) (v := 200) B rfl dX6_setEnvelope_2 ?_
  have hX1 : (xb (m_X6_refuseOutside x 0 200) (fun u1 => xb (m_X6_refuseOutside y 0 200) (fun u2 => xb (m_X6_refuseOutside z 0 1000) (fun u3 => xb (m_X6_refuseOutside u 0 200) (fun u4 => .inr (ea 0 2))))) : String ⊕ Int32) = m_X6_setEnvelope ea x y z u := (by unfold m_X6_setEnvelope; rfl)
  refine zv_callSX (pc := 5) (As := [.int x, .int 0, .int 200]) (rest := []) B (k_X6_refuseOutside l E b _ _ _ _  x 0 200 hlf) (zcwS 3 6 B wm_X6_55 ws_X6_refuseOutside wn_X6 wcode_X6_refuseOutside (by decide +kernel) ⟨(Nat.le_of_ble_eq_true rfl), (Nat.le_of_ble_eq_true rfl)⟩) rfl zid rfl (Nat.le_of_ble_eq_true rfl) dX6_setEnvelope_5 ⟨(Nat.le_of_ble_eq_true rfl), (Nat.le_of_ble_eq_true rfl)⟩ (fun X9 hX9 => zx_out B htab (xb_inl hX1 hX9) zid (Nat.le_of_ble_eq_true rfl) (Nat.le_of_ble_eq_true rfl)) (fun v9 u1 hv9 => ?_)
  obtain ⟨hu1, rfl⟩ := hv9
  have hE3001 : (xb (m_X6_refuseOutside y 0 200) (fun u2 => xb (m_X6_refuseOutside z 0 1000) (fun u3 => xb (m_X6_refuseOutside u 0 200) (fun u4 => .inr (ea 0 2)))) : String ⊕ Int32) = m_X6_setEnvelope ea x y z u := by have h9 := xb_inr hX1 hu1; exact h9
  refine zv_st (st' := []) rfl ?_
  refine zv_iload_n (pc := 8) B 2 rfl dX6_setEnvelope_8 ?_
  refine zv_iconst (pc := 9) (v := 0) B rfl dX6_setEnvelope_9 ?_
  refine zv_sipush (pc := 10) (v := 200) B rfl dX6_setEnvelope_10 ?_
  have hX2 : (xb (m_X6_refuseOutside y 0 200) (fun u2 => xb (m_X6_refuseOutside z 0 1000) (fun u3 => xb (m_X6_refuseOutside u 0 200) (fun u4 => .inr (ea 0 2)))) : String ⊕ Int32) = m_X6_setEnvelope ea x y z u := hE3001
  refine zv_callSX (pc := 13) (As := [.int y, .int 0, .int 200]) (rest := []) B (k_X6_refuseOutside l E b _ _ _ _  y 0 200 hlf) (zcwS 3 6 B wm_X6_55 ws_X6_refuseOutside wn_X6 wcode_X6_refuseOutside (by decide +kernel) ⟨(Nat.le_of_ble_eq_true rfl), (Nat.le_of_ble_eq_true rfl)⟩) rfl zid rfl (Nat.le_of_ble_eq_true rfl) dX6_setEnvelope_13 ⟨(Nat.le_of_ble_eq_true rfl), (Nat.le_of_ble_eq_true rfl)⟩ (fun X9 hX9 => zx_out B htab (xb_inl hX2 hX9) zid (Nat.le_of_ble_eq_true rfl) (Nat.le_of_ble_eq_true rfl)) (fun v9 u2 hv9 => ?_)
  obtain ⟨hu2, rfl⟩ := hv9
  have hE3002 : (xb (m_X6_refuseOutside z 0 1000) (fun u3 => xb (m_X6_refuseOutside u 0 200) (fun u4 => .inr (ea 0 2))) : String ⊕ Int32) = m_X6_setEnvelope ea x y z u := by have h9 := xb_inr hX2 hu2; exact h9
  refine zv_st (st' := []) rfl ?_
  refine zv_iload_n (pc := 16) B 3 rfl dX6_setEnvelope_16 ?_
  refine zv_iconst (pc := 17) (v := 0) B rfl dX6_setEnvelope_17 ?_
  refine zv_sipush (pc := 18) (v := 1000) B rfl dX6_setEnvelope_18 ?_
  have hX3 : (xb (m_X6_refuseOutside z 0 1000) (fun u3 => xb (m_X6_refuseOutside u 0 200) (fun u4 => .inr (ea 0 2))) : String ⊕ Int32) = m_X6_setEnvelope ea x y z u := hE3002
  refine zv_callSX (pc := 21) (As := [.int z, .int 0, .int 1000]) (rest := []) B (k_X6_refuseOutside l E b _ _ _ _  z 0 1000 hlf) (zcwS 3 6 B wm_X6_55 ws_X6_refuseOutside wn_X6 wcode_X6_refuseOutside (by decide +kernel) ⟨(Nat.le_of_ble_eq_true rfl), (Nat.le_of_ble_eq_true rfl)⟩) rfl zid rfl (Nat.le_of_ble_eq_true rfl) dX6_setEnvelope_21 ⟨(Nat.le_of_ble_eq_true rfl), (Nat.le_of_ble_eq_true rfl)⟩ (fun X9 hX9 => zx_out B htab (xb_inl hX3 hX9) zid (Nat.le_of_ble_eq_true rfl) (Nat.le_of_ble_eq_true rfl)) (fun v9 u3 hv9 => ?_)
  obtain ⟨hu3, rfl⟩ := hv9
  have hE3003 : (xb (m_X6_refuseOutside u 0 200) (fun u4 => .inr (ea 0 2)) : String ⊕ Int32) = m_X6_setEnvelope ea x y z u := by have h9 := xb_inr hX3 hu3; exact h9
  refine zv_st (st' := []) rfl ?_
  refine zv_iload (pc := 24) B 4 rfl dX6_setEnvelope_24 ?_
  refine zv_iconst (pc := 26) (v := 0) B rfl dX6_setEnvelope_26 ?_
  refine zv_sipush (pc := 27) (v := 200) B rfl dX6_setEnvelope_27 ?_
  have hX4 : (xb (m_X6_refuseOutside u 0 200) (fun u4 => .inr (ea 0 2)) : String ⊕ Int32) = m_X6_setEnvelope ea x y z u := hE3003
  refine zv_callSX (pc := 30) (As := [.int u, .int 0, .int 200]) (rest := []) B (k_X6_refuseOutside l E b _ _ _ _  u 0 200 hlf) (zcwS 3 6 B wm_X6_55 ws_X6_refuseOutside wn_X6 wcode_X6_refuseOutside (by decide +kernel) ⟨(Nat.le_of_ble_eq_true rfl), (Nat.le_of_ble_eq_true rfl)⟩) rfl zid rfl (Nat.le_of_ble_eq_true rfl) dX6_setEnvelope_30 ⟨(Nat.le_of_ble_eq_true rfl), (Nat.le_of_ble_eq_true rfl)⟩ (fun X9 hX9 => zx_out B htab (xb_inl hX4 hX9) zid (Nat.le_of_ble_eq_true rfl) (Nat.le_of_ble_eq_true rfl)) (fun v9 u4 hv9 => ?_)
  obtain ⟨hu4, rfl⟩ := hv9
  have hE3004 : (.inr (ea 0 2) : String ⊕ Int32) = m_X6_setEnvelope ea x y z u := by have h9 := xb_inr hX4 hu4; exact h9
  refine zv_st (st' := []) rfl ?_
  refine zv_aload_n (pc := 33) B 0 rfl dX6_setEnvelope_33 ?_
  refine zv_get (pc := 34) (v := .ref (en 0)) B (zat (by decide) (z0 _ _ _)) cl6 inX6 7 (by decide) wf_X6_51 rfl dX6_setEnvelope_34 ?_
  refine zv_get (pc := 37) (v := .int (ea 0 2)) B (zaev (zae _ rfl)) cl2 inX2 2 (by decide) wf_X6_164 rfl dX6_setEnvelope_37 ?_
  refine zv_istore (pc := 40) (L' := [(5, .int (ea 0 2)), (0, .ref (b + 0)), (1, .int x), (2, .int y), (3, .int z), (4, .int u)]) B (by decide) rfl dX6_setEnvelope_40 ?_
  refine zv_aload_n (pc := 42) B 1 rfl dX6_setEnvelope_42 ?_
  have hE5 : (.inr (ea 0 2) : String ⊕ Int32) = m_X6_setEnvelope ea x y z u := hE3004
  refine zn_new B zid wc_X6_46 (Nat.le_of_ble_eq_true rfl) (Nat.le_of_ble_eq_true rfl) dX6_setEnvelope_43 (fun a9 => ?_)
  refine zv_dup (pc := 46) B rfl dX6_setEnvelope_46 ?_
  refine zv_iload_n (pc := 47) B 2 rfl dX6_setEnvelope_47 ?_
  refine zv_iload_n (pc := 48) B 3 rfl dX6_setEnvelope_48 ?_
  refine zv_iload_n (pc := 49) B 4 rfl dX6_setEnvelope_49 ?_
  refine zv_iload (pc := 50) B 5 rfl dX6_setEnvelope_50 ?_
  refine zv_callI (pc := 52) (As := [.int x, .int y, .int z, .int u]) (rest := [.ref a9, .ref (b + 0)]) B (k_X2_initH l E b c w en ea a9 x y z u) (zcwI 4 1 B wm_X6_48 wi_X2_init wn_X2 wcode_X2_init rfl (by decide +kernel) ⟨(Nat.le_of_ble_eq_true rfl), (Nat.le_of_ble_eq_true rfl)⟩) rfl (fun H h => h) rfl (Nat.le_of_ble_eq_true rfl) dX6_setEnvelope_52 ⟨(Nat.le_of_ble_eq_true rfl), (Nat.le_of_ble_eq_true rfl)⟩ (fun v9 u9 hv9 => ?_)
  subst hv9
  refine zv_st (st' := [.ref a9, .ref (b + 0)]) rfl ?_
  refine zs_pute (pc := 55) (f := 7) (F := fun e1 => [.ref (b + 1), .ref (b + 34), .ref (b + 70), .ref (b + 106), .ref (b + 108), .ref (b + 109), .int (c 0 6), .ref e1]) (x := zq4 x y z u) (i := 0) B (fun H h => h.1) (fun H h => h.ev) (by decide) rfl (fun e1 => z0 _ _ e1) cl6 inX6 tyX6 tyX6_ok nmX6 (by decide) wf_X6_51 rfl rfl rfl rfl (Nat.le_of_ble_eq_true rfl) rfl dX6_setEnvelope_55 ?_
  refine zv_iload (pc := 58) B 0 rfl dX6_setEnvelope_58 ?_
  exact zx_iret (pc := 60) B (ea 0 2) hr (fun H hP => ⟨(ea 0 2, a9), ⟨hE5.symm, rfl⟩, hP⟩) (Nat.le_of_ble_eq_true rfl) (Nat.le_of_ble_eq_true rfl) dX6_setEnvelope_60
