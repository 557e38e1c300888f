set_option maxRecDepth 100000 in
set_option maxHeartbeats 1000000 in
theorem start_body {Inv : Nat → (Nat → Nat → Int32) → (Nat → Int64) → (Nat → Nat → Int32) → Prop} (hok : zInvOK Inv) (hmono : ∀ j c w ea, Inv j c w ea → Inv (j + 1) c w ea) (hPs : zPall Inv) (hI0 : Inv 0 c0 w0 ea0) {p : Program} {e : Env} {s : State} {m : MethodId} {below : List Frame} {meth : Method} {c9 : Code} (l : Launch) (hlf : l.stackTraces = false) {b q0 L : Nat} {E : zE} {xs : Nat → Int32} (B : zC p s m #[Value.ref q0] meth c9 cL_law 9 "ToneGraphLaw" E b) (hX : va_X q0 L xs s s.heap) (hbl : q0 < s.heap.size) (hb0 : s.heap.size = b) (hr : meth.sig.returnType = ret) (hL : L ≤ 2560) : zV p l e room_1 s m #[Value.ref q0] below meth c9 (lw_Z below #[Value.ref q0] s) 9 b (zPic E b 0 (fun _ => zev0)) 0 [(0, .ref q0)] [] 0 0 := by
  refine zp_new (ci := 8) (fs := [.null, .null, .null, .null, .null, .null, .int 0, .null]) B inX6 tyX6 tyX6_ok cl6 wc_L_8 wt_X6 wn_X6 (zls (zls (zls (zls (zls (zls (zls (zls zl0 rfl) rfl) rfl) rfl) rfl) rfl) rfl) rfl) (K1 := 1) rfl (Nat.le_of_ble_eq_true rfl) (Nat.le_of_ble_eq_true rfl) dL_law_0 ?_
  refine zv_dup (pc := 3) B rfl dL_law_3 ?_
  refine zv_callI (pc := 4) (As := []) (rest := [.ref (b + 0)]) B (k_X6_init_0 l E b rfl) (zcwI 0 5 B wm_L_113 wi_X6_init wn_X6 wcode_X6_init rfl (by decide +kernel) ⟨(Nat.le_of_ble_eq_true rfl), (Nat.le_of_ble_eq_true rfl)⟩) rfl (fun H h => h) rfl (Nat.le_of_ble_eq_true rfl) dL_law_4 ⟨(Nat.le_of_ble_eq_true rfl), (Nat.le_of_ble_eq_true rfl)⟩ (fun v9 u9 hv9 => ?_)
  subst hv9
  refine zv_st (st' := [.ref (b + 0)]) rfl ?_
  refine zv_astore_n (pc := 7) (L' := [(1, .ref (b + 0)), (0, .ref q0)]) B (by decide) rfl dL_law_7 ?_
  refine zp_new (ci := 9) (fs := [.null, .null, .null, .null, .null, .null, .null, .null, .null, .null, .null, .null, .int 0, .int 0, .int 0, .int 0, .int 0, .int 0, .int 0, .int 0, .int 0, .int 0, .int 0, .int 0, .int 0, .long 0]) B inX7 tyX7 tyX7_ok cl7 wc_L_114 wt_X7 wn_X7 (zls (zls (zls (zls (zls (zls (zls (zls (zls (zls (zls (zls (zls (zls (zls (zls (zls (zls (zls (zls (zls (zls (zls (zls (zls (zls zl0 rfl) rfl) rfl) rfl) rfl) rfl) rfl) rfl) rfl) rfl) rfl) rfl) rfl) rfl) rfl) rfl) rfl) rfl) rfl) rfl) rfl) rfl) rfl) rfl) rfl) rfl) (K1 := 112) rfl (Nat.le_of_ble_eq_true rfl) (Nat.le_of_ble_eq_true rfl) dL_law_8 ?_
  refine zv_dup (pc := 11) B rfl dL_law_11 ?_
  refine zv_callI (pc := 12) (As := []) (rest := [.ref (b + 111)]) B (k_X7_init_111 l E b rfl) (zcwI 0 2 B wm_L_116 wi_X7_init wn_X7 wcode_X7_init rfl (by decide +kernel) ⟨(Nat.le_of_ble_eq_true rfl), (Nat.le_of_ble_eq_true rfl)⟩) rfl (fun H h => h) rfl (Nat.le_of_ble_eq_true rfl) dL_law_12 ⟨(Nat.le_of_ble_eq_true rfl), (Nat.le_of_ble_eq_true rfl)⟩ (fun v9 u9 hv9 => ?_)
  subst hv9
  refine zv_st (st' := [.ref (b + 111)]) rfl ?_
  refine zv_astore_n (pc := 15) (L' := [(2, .ref (b + 111)), (1, .ref (b + 0)), (0, .ref q0)]) B (by decide) rfl dL_law_15 ?_
  refine zv_iconst (pc := 16) (v := 1) B rfl dL_law_16 ?_
  refine zp_newa (t0 := 5) (cA := E.2 5) (a0 := (1, .inr (.inl (fun _ => 0)))) (atype := .long) (N := 1) B wa_long rfl (fun C h => by cases h) (by rw [vp_cell_l]; rfl) (by decide) (by decide) (Nat.le_of_ble_eq_true rfl) (K1 := 125) rfl (Nat.le_of_ble_eq_true rfl) (Nat.le_of_ble_eq_true rfl) dL_law_17 ?_
  refine zv_astore_n (pc := 19) (L' := [(3, .ref (b + 124)), (2, .ref (b + 111)), (1, .ref (b + 0)), (0, .ref q0)]) B (by decide) rfl dL_law_19 ?_
  refine zv_iconst (pc := 20) (v := 1) B rfl dL_law_20 ?_
  refine zp_newa (t0 := 6) (cA := E.2 6) (a0 := (1, .inr (.inr (.inr (.inl (fun _ => 0)))))) (atype := .double) (N := 1) B wa_double rfl (fun C h => by cases h) (by rw [vp_cell_d]; rfl) (by decide) (by decide) (Nat.le_of_ble_eq_true rfl) (K1 := 126) rfl (Nat.le_of_ble_eq_true rfl) (Nat.le_of_ble_eq_true rfl) dL_law_21 ?_
  refine zv_astore (pc := 23) (L' := [(4, .ref (b + 125)), (3, .ref (b + 124)), (2, .ref (b + 111)), (1, .ref (b + 0)), (0, .ref q0)]) B (by decide) rfl dL_law_23 ?_
  refine zv_iconst (pc := 25) (v := 0) B rfl dL_law_25 ?_
  refine zv_istore (pc := 26) (L' := [(5, .int 0), (4, .ref (b + 125)), (3, .ref (b + 124)), (2, .ref (b + 111)), (1, .ref (b + 0)), (0, .ref q0)]) B (by decide) rfl dL_law_26 ?_
  refine zv_loc (L' := [(0, .ref q0), (1, .ref (b + 0)), (2, .ref (b + 111)), (3, .ref (b + 124)), (4, .ref (b + 125)), (5, .int (nI (5 * 0)))]) [5, 4, 3, 2, 1, 0] rfl ?_
  refine zv_imp (P' := zH E b c0 w0 (en0 b) ea0) (fun H h => zc0_H (h.eq (zls (zls (zls (zls (zls (zls (zls (zls (zls (zls (zls (zls (zls (zls (zls (zls (zls (zls (zls (zls (zls (zls (zls (zls (zls (zls (zls (zls (zls (zls (zls (zls (zls (zls (zls (zls (zls (zls (zls (zls (zls (zls (zls (zls (zls (zls (zls (zls (zls (zls (zls (zls (zls (zls (zls (zls (zls (zls (zls (zls (zls (zls (zls (zls (zls (zls (zls (zls (zls (zls (zls (zls (zls (zls (zls (zls (zls (zls (zls (zls (zls (zls (zls (zls (zls (zls (zls (zls (zls (zls (zls (zls (zls (zls (zls (zls (zls (zls (zls (zls (zls (zls (zls (zls (zls (zls (zls (zls (zls (zls (zls (zls (zls (zls (zls (zls (zls (zls (zls (zls (zls (zls (zls (zls (zls (zls zl0 rfl) rfl) rfl) rfl) rfl) rfl) rfl) rfl) rfl) rfl) rfl) rfl) rfl) rfl) rfl) rfl) rfl) rfl) rfl) rfl) rfl) rfl) rfl) rfl) rfl) rfl) rfl) rfl) rfl) rfl) rfl) rfl) rfl) rfl) rfl) rfl) rfl) rfl) rfl) rfl) rfl) rfl) rfl) rfl) rfl) rfl) rfl) rfl) rfl) rfl) rfl) rfl) rfl) rfl) rfl) rfl) rfl) rfl) rfl) rfl) rfl) rfl) rfl) rfl) rfl) rfl) rfl) rfl) rfl) rfl) rfl) rfl) rfl) rfl) rfl) rfl) rfl) rfl) rfl) rfl) rfl) rfl) rfl) rfl) rfl) rfl) rfl) rfl) rfl) rfl) rfl) rfl) rfl) rfl) rfl) rfl) rfl) rfl) rfl) rfl) rfl) rfl) rfl) rfl) rfl) rfl) rfl) rfl) rfl) rfl) rfl) rfl) rfl) rfl) rfl) rfl) rfl) rfl) rfl) rfl) rfl) rfl) rfl) rfl) rfl) rfl))) ?_
  exact law_loop hok hmono hPs B hlf hX hbl hb0 hr hL 512 0 _ _ c0 w0 (en0 b) ea0 (by omega) (by omega) (by omega) (by omega) hI0
set_option maxRecDepth 100000 in
set_option maxHeartbeats 1000000 in
theorem start_of {Inv : Nat → (Nat → Nat → Int32) → (Nat → Int64) → (Nat → Nat → Int32) → Prop} (hok : zInvOK Inv) (hmono : ∀ j c w ea, Inv j c w ea → Inv (j + 1) c w ea) (hPs : zPall Inv) (hI0 : Inv 0 c0 w0 ea0) {p : Program} {e : Env} {s : State} {m : MethodId} {below : List Frame} {meth : Method} {c : Code} (l : Launch) (hflags : l.flags = flags0) {b L : Nat} {xs : Nat → Int32} (hL : L ≤ 2560) (C0 : lw_At p s m meth c b L xs) : W p l e room_1 s m #[Value.ref b] below meth c s.heap [] 0 0 (lw_Z below #[Value.ref b] s) (entryFrame m ([Value.ref b] : List Value).toArray 9) := by
  obtain ⟨hx, hb, hr, hml, hown, hts, hX, hbl, hlocks, hgv⟩ := id C0
  obtain ⟨E, hIE⟩ := zI_start hts hgv
  have hlf : l.stackTraces = false := by unfold Launch.stackTraces; rw [hflags]; rfl
  have B : zC p s m #[Value.ref b] meth c cL_law 9 "ToneGraphLaw" E s.heap.size := ⟨hx, hb, hml, hown, fun w hw => hts w (List.mem_filter.mp hw).1, hIE, hlocks, Nat.le_refl _⟩
  rw [lg_entry_eq]
  have hl := lv_entry ([.ref b]) (n := 9) (Nat.le_of_ble_eq_true rfl)
  revert hX hbl hl
  generalize hq : s.heap.size = bb at B
  intro hX hbl hl
  have key : zV p l e room_1 s m #[Value.ref b] below meth c (lw_Z below #[Value.ref b] s) 9 bb (zPic E bb 0 (fun _ => zev0)) 0 [(0, .ref b)] [] 0 0 := by
    have hbl' : b < s.heap.size := by rw [hq]; exact hbl
    exact start_body hok hmono hPs hI0 l hlf B hX hbl' hq hr hL
  exact key s.heap [] _ ⟨hq, fun i hi => absurd hi (Nat.not_lt_zero i)⟩ (by rw [← hq]; exact va_S.rf) hl