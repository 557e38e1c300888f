set_option maxRecDepth 100000 in
set_option maxHeartbeats 400000 in
theorem law_endAll {Inv : Nat → (Nat → Nat → Int32) → (Nat → Int64) → (Nat → Nat → Int32) → Prop} (hok : zInvOK Inv) (hP : zP_endAll Inv) {p : Program} {l : Launch} {e : Env} {s : State} {m : MethodId} {args : Array Value} {below : List Frame} {meth : Method} {c9 : Code} {Q : State → Prop} {b : Nat} {E : zE} (B : zC p s m args meth c9 cL_law 9 "ToneGraphLaw" E b) (hlf : l.stackTraces = false) {q0 L : Nat} {xs : Nat → Int32} (hX : va_X q0 L xs s s.heap) (hbl : q0 < s.heap.size) (hb0 : s.heap.size = b) {k n i j : Nat} (hk : k + 5 ≤ 603072) (hn : n + 28 ≤ 7215210) (hi : i + 5 ≤ L) (hL : L < 2 ^ 31) {c : Nat → Nat → Int32} {w : Nat → Int64} {en : Nat → Nat} {ea : Nat → Nat → Int32} (hI : Inv j c w ea) (hj : j < 512) (next : ∀ (c' : Nat → Nat → Int32) (w' : Nat → Int64) (en' : Nat → Nat) (ea' : Nat → Nat → Int32), Inv (j + 1) c' w' ea' → zV p l e room_1 s m args below meth c9 Q 9 b (zH E b c' w' en' ea') 2100 [(0, .ref q0), (1, .ref (b + 0)), (2, .ref (b + 111)), (3, .ref (b + 124)), (4, .ref (b + 125)), (5, .int (nI i))] [] (k + 5) (n + 28)) : zV p l e room_1 s m args below meth c9 Q 9 b (zH E b c w en ea) 1348 [(0, .ref q0), (1, .ref (b + 0)), (2, .ref (b + 111)), (3, .ref (b + 124)), (4, .ref (b + 125)), (5, .int (nI i))] [] k n := by
  obtain ⟨hg, hL9, hD, ht, hA, h0, hO, hS⟩ := hok j c w ea hI (by omega)
  refine zv_aload_n (pc := 1348) B 1 rfl dL_law_1348 ?_
  refine zv_callV (pc := 1349) (As := []) (rest := []) B (k_X6_endAll l E b _ _ _ _  hg) (zcwV 0 7 B wm_L_187 wi_X6_endAll wv_X6_endAll wn_X6 wcode_X6_endAll rfl (by decide +kernel) ⟨(Nat.le_of_ble_eq_true rfl), (Nat.le_of_ble_eq_true rfl)⟩) rfl (zrecv B (zat (by decide) (z0 _ _ _)) cl6) zid rfl (Nat.le_of_ble_eq_true rfl) dL_law_1349 ⟨(show _ ≤ 603072 by omega), (show _ ≤ 7215210 by omega)⟩ (fun v9 u9 hv9 => ?_)
  obtain ⟨rfl, hFw, hgw⟩ := hv9
  refine zv_st (st' := [.int ((m_X6_endAll c ea).1)]) rfl ?_
  refine zv_aload_n (pc := 1352) B 2 rfl dL_law_1352 ?_
  refine zv_callV (pc := 1353) (As := []) (rest := [.int ((m_X6_endAll c ea).1)]) B (k_X7_endAll l E b _ _ _ _ (T := 4000 * j) (by omega) (by rw [hFw 112 (by omega)]; exact hL9) hgw) (zcwV 0 5 B wm_L_190 wi_X7_endAll wv_X7_endAll wn_X7 wcode_X7_endAll rfl (by decide +kernel) ⟨(Nat.le_of_ble_eq_true rfl), (Nat.le_of_ble_eq_true rfl)⟩) rfl (zrecv B (zat (by decide) (z111 _ _ _)) cl7) zid rfl (Nat.le_of_ble_eq_true rfl) dL_law_1353 ⟨(show _ ≤ 603072 by omega), (show _ ≤ 7215210 by omega)⟩ (fun v9 u9 hv9 => ?_)
  obtain ⟨rfl, hF7, hg7⟩ := hv9
  refine zv_st (st' := [.int ((m_X7_endAll ((m_X6_endAll c ea).2)).1), .int ((m_X6_endAll c ea).1)]) rfl ?_
  obtain ⟨h1, h3⟩ := hP j c w en ea hI hj hFw hgw hF7 hg7
  refine zv_icmp_eq (pc := 1356) (tgt := 2100) B dL_law_1356 rfl (fun _ => ?_) (fun h9 => absurd h1 h9)
  refine zv_widen (pc := 2100) (k' := k + 5) (n' := n + 28) (by omega) (by omega) ?_
  exact next _ _ _ _ h3
set_option maxRecDepth 100000 in
set_option maxHeartbeats 400000 in
theorem law_sounding {Inv : Nat → (Nat → Nat → Int32) → (Nat → Int64) → (Nat → Nat → Int32) → Prop} (hok : zInvOK Inv) (hP : zP_sounding Inv) {p : Program} {l : Launch} {e : Env} {s : State} {m : MethodId} {args : Array Value} {below : List Frame} {meth : Method} {c9 : Code} {Q : State → Prop} {b : Nat} {E : zE} (B : zC p s m args meth c9 cL_law 9 "ToneGraphLaw" E b) (hlf : l.stackTraces = false) {q0 L : Nat} {xs : Nat → Int32} (hX : va_X q0 L xs s s.heap) (hbl : q0 < s.heap.size) (hb0 : s.heap.size = b) {k n i j : Nat} (hk : k + 5 ≤ 603072) (hn : n + 28 ≤ 7215210) (hi : i + 5 ≤ L) (hL : L < 2 ^ 31) {c : Nat → Nat → Int32} {w : Nat → Int64} {en : Nat → Nat} {ea : Nat → Nat → Int32} (hI : Inv j c w ea) (hj : j < 512) (next : ∀ (c' : Nat → Nat → Int32) (w' : Nat → Int64) (en' : Nat → Nat) (ea' : Nat → Nat → Int32), Inv (j + 1) c' w' ea' → zV p l e room_1 s m args below meth c9 Q 9 b (zH E b c' w' en' ea') 2100 [(0, .ref q0), (1, .ref (b + 0)), (2, .ref (b + 111)), (3, .ref (b + 124)), (4, .ref (b + 125)), (5, .int (nI i))] [] (k + 5) (n + 28)) : zV p l e room_1 s m args below meth c9 Q 9 b (zH E b c w en ea) 1361 [(0, .ref q0), (1, .ref (b + 0)), (2, .ref (b + 111)), (3, .ref (b + 124)), (4, .ref (b + 125)), (5, .int (nI i))] [] k n := by
  obtain ⟨hg, hL9, hD, ht, hA, h0, hO, hS⟩ := hok j c w ea hI (by omega)
  refine zv_aload_n (pc := 1361) B 1 rfl dL_law_1361 ?_
  refine zv_callV (pc := 1362) (As := []) (rest := []) B (k_X6_sounding l E b _ _ _ _  hg) (zcwV 0 7 B wm_L_191 wi_X6_sounding wv_X6_sounding wn_X6 wcode_X6_sounding rfl (by decide +kernel) ⟨(Nat.le_of_ble_eq_true rfl), (Nat.le_of_ble_eq_true rfl)⟩) rfl (zrecv B (zat (by decide) (z0 _ _ _)) cl6) zid rfl (Nat.le_of_ble_eq_true rfl) dL_law_1362 ⟨(show _ ≤ 603072 by omega), (show _ ≤ 7215210 by omega)⟩ (fun v9 u9 hv9 => ?_)
  subst hv9
  refine zv_st (st' := [.int (m_X6_sounding c)]) rfl ?_
  refine zv_aload_n (pc := 1365) B 2 rfl dL_law_1365 ?_
  refine zv_callV (pc := 1366) (As := []) (rest := [.int (m_X6_sounding c)]) B (k_X7_sounding l E b _ _ _ _ hg) (zcwV 0 2 B wm_L_194 wi_X7_sounding wv_X7_sounding wn_X7 wcode_X7_sounding rfl (by decide +kernel) ⟨(Nat.le_of_ble_eq_true rfl), (Nat.le_of_ble_eq_true rfl)⟩) rfl (zrecv B (zat (by decide) (z111 _ _ _)) cl7) zid rfl (Nat.le_of_ble_eq_true rfl) dL_law_1366 ⟨(show _ ≤ 603072 by omega), (show _ ≤ 7215210 by omega)⟩ (fun v9 u9 hv9 => ?_)
  obtain ⟨rfl, hF7, hg7⟩ := hv9
  refine zv_st (st' := [.int ((m_X7_sounding c).1), .int (m_X6_sounding c)]) rfl ?_
  obtain ⟨h1, h3⟩ := hP j c w en ea hI hj hF7 hg7
  refine zv_icmp_eq (pc := 1369) (tgt := 2100) B dL_law_1369 rfl (fun _ => ?_) (fun h9 => absurd h1 h9)
  refine zv_widen (pc := 2100) (k' := k + 5) (n' := n + 28) (by omega) (by omega) ?_
  exact next _ _ _ _ h3
set_option maxRecDepth 100000 in
set_option maxHeartbeats 400000 in
theorem law_stateOf {Inv : Nat → (Nat → Nat → Int32) → (Nat → Int64) → (Nat → Nat → Int32) → Prop} (hok : zInvOK Inv) (hP : zP_stateOf Inv) {p : Program} {l : Launch} {e : Env} {s : State} {m : MethodId} {args : Array Value} {below : List Frame} {meth : Method} {c9 : Code} {Q : State → Prop} {b : Nat} {E : zE} (B : zC p s m args meth c9 cL_law 9 "ToneGraphLaw" E b) (hlf : l.stackTraces = false) {q0 L : Nat} {xs : Nat → Int32} (hX : va_X q0 L xs s s.heap) (hbl : q0 < s.heap.size) (hb0 : s.heap.size = b) {k n i j : Nat} (hk : k + 5 ≤ 603072) (hn : n + 28 ≤ 7215210) (hi : i + 5 ≤ L) (hL : L < 2 ^ 31) {c : Nat → Nat → Int32} {w : Nat → Int64} {en : Nat → Nat} {ea : Nat → Nat → Int32} (hI : Inv j c w ea) (hj : j < 512) (next : ∀ (c' : Nat → Nat → Int32) (w' : Nat → Int64) (en' : Nat → Nat) (ea' : Nat → Nat → Int32), Inv (j + 1) c' w' ea' → zV p l e room_1 s m args below meth c9 Q 9 b (zH E b c' w' en' ea') 2100 [(0, .ref q0), (1, .ref (b + 0)), (2, .ref (b + 111)), (3, .ref (b + 124)), (4, .ref (b + 125)), (5, .int (nI i))] [] (k + 5) (n + 28)) : zV p l e room_1 s m args below meth c9 Q 9 b (zH E b c w en ea) 1374 [(0, .ref q0), (1, .ref (b + 0)), (2, .ref (b + 111)), (3, .ref (b + 124)), (4, .ref (b + 125)), (5, .int (nI i))] [] k n := by
  obtain ⟨hg, hL9, hD, ht, hA, h0, hO, hS⟩ := hok j c w ea hI (by omega)
  refine zv_aload_n (pc := 1374) B 1 rfl dL_law_1374 ?_
  refine zv_aload_n (pc := 1375) B 0 rfl dL_law_1375 ?_
  refine zv_iload (pc := 1376) B 5 rfl dL_law_1376 ?_
  refine zv_iconst (pc := 1378) (v := 1) B rfl dL_law_1378 ?_
  refine zv_iadd (pc := 1379) B dL_law_1379 ?_
  refine zv_topi (y := nI (i + 1)) (nI_add i 1) ?_
  refine zv_sld (pc := 1380) (jj := (i + 1)) B hX hbl hb0 rfl (by omega) hL dL_law_1380 ?_
  refine zv_aload_n (pc := 1381) B 3 rfl dL_law_1381 ?_
  refine zv_callSW (pc := 1382) (As := [.ref (b + 0), .int (xs (i + 1)), .ref (b + 124)]) (rest := []) B (k_L_stateOf l E b c w en ea (xs (i + 1)) hg hlf) (zcwSW 3 8 B wm_L_195 ws_L_stateOf wn_L wcode_L_stateOf (by decide +kernel) ⟨(Nat.le_of_ble_eq_true rfl), (Nat.le_of_ble_eq_true rfl)⟩) rfl zid rfl (Nat.le_of_ble_eq_true rfl) dL_law_1382 ⟨(show _ ≤ 603072 by omega), (show _ ≤ 7215210 by omega)⟩ (fun v9 u9 hv9 => ?_)
  obtain ⟨rfl, hgw, hFw⟩ := hv9
  refine zv_st (st' := [.int ((w_L_stateOf c w ea (xs (i + 1))).1)]) rfl ?_
  refine zv_istore (pc := 1385) (L' := [(6, .int ((w_L_stateOf c w ea (xs (i + 1))).1)), (0, .ref q0), (1, .ref (b + 0)), (2, .ref (b + 111)), (3, .ref (b + 124)), (4, .ref (b + 125)), (5, .int (nI i))]) B (by decide) rfl dL_law_1385 ?_
  refine zv_aload_n (pc := 1387) B 3 rfl dL_law_1387 ?_
  refine zv_aload_n (pc := 1388) B 1 rfl dL_law_1388 ?_
  refine zv_iload (pc := 1389) B 6 rfl dL_law_1389 ?_
  refine zv_iconst (pc := 1391) (v := 1) B rfl dL_law_1391 ?_
  refine zv_iadd (pc := 1392) B dL_law_1392 ?_
  refine zv_topi (y := nI (i + 1)) (nI_add i 1) ?_
  refine zv_sld (pc := 1393) (jj := (i + 1)) B hX hbl hb0 rfl (by omega) hL dL_law_1393 ?_
  refine zv_callV (pc := 1394) (As := [.int (xs (i + 1))]) (rest := []) B (k_X7_stateOf l E b _ _ _ _ (xs (i + 1)) hgw) (zcwV 1 3 B wm_L_197 wi_X7_stateOf wv_X7_stateOf wn_X7 wcode_X7_stateOf rfl (by decide +kernel) ⟨(Nat.le_of_ble_eq_true rfl), (Nat.le_of_ble_eq_true rfl)⟩) rfl (zrecv B (zat (by decide) (z111 _ _ _)) cl7) zid rfl (Nat.le_of_ble_eq_true rfl) dL_law_1394 ⟨(show _ ≤ 603072 by omega), (show _ ≤ 7215210 by omega)⟩ (fun v9 u9 hv9 => ?_)
  obtain ⟨rfl, hF7, hg7⟩ := hv9
  refine zv_st (st' := [.int ((m_X7_stateOf ((w_L_stateOf c w ea (xs (i + 1))).2.1) (xs (i + 1))).1)]) rfl ?_
  obtain ⟨h1, h2, h3⟩ := hP j c w en ea (xs (i + 1)) hI hj hFw hgw hF7 hg7
  refine zv_istore (pc := 1397) (L' := [(7, .int ((m_X7_stateOf ((w_L_stateOf c w ea (xs (i + 1))).2.1) (xs (i + 1))).1)), (6, .int ((w_L_stateOf c w ea (xs (i + 1))).1)), (0, .ref q0), (1, .ref (b + 0)), (2, .ref (b + 111)), (3, .ref (b + 124)), (4, .ref (b + 125)), (5, .int (nI i))]) B (by decide) rfl dL_law_1397 ?_
  refine zv_aload_n (pc := 1399) B 4 rfl dL_law_1399 ?_
  refine zv_callV (pc := 1400) (As := []) (rest := []) B (k_X7_thrown l E b _ _ _ _ ) (zcwV 0 0 B wm_L_123 wi_X7_thrown wv_X7_thrown wn_X7 wcode_X7_thrown rfl (by decide +kernel) ⟨(Nat.le_of_ble_eq_true rfl), (Nat.le_of_ble_eq_true rfl)⟩) rfl (zrecv B (zat (by decide) (z111 _ _ _)) cl7) zid rfl (Nat.le_of_ble_eq_true rfl) dL_law_1400 ⟨(show _ ≤ 603072 by omega), (show _ ≤ 7215210 by omega)⟩ (fun v9 u9 hv9 => ?_)
  subst hv9
  refine zv_st (st' := [.int (m_X7_thrown ((m_X7_stateOf ((w_L_stateOf c w ea (xs (i + 1))).2.1) (xs (i + 1))).2))]) rfl ?_
  refine zv_iload (pc := 1403) B 1 rfl dL_law_1403 ?_
  refine zv_icmp_eq (pc := 1405) (tgt := 1410) B dL_law_1405 rfl (fun _ => ?_) (fun h9 => absurd h1 h9)
  refine zv_iload (pc := 1410) B 1 rfl dL_law_1410 ?_
  refine zv_if_ne (pc := 1412) (tgt := 1427) B dL_law_1412 rfl (fun hc => ?_) (fun hc => ?_)
  · refine zv_goto (pc := 1427) (tgt := 2100) B rfl dL_law_1427 ?_
    refine zv_widen (pc := 2100) (k' := k + 5) (n' := n + 28) (by omega) (by omega) ?_
    refine zv_loc (L' := [(0, .ref q0), (1, .ref (b + 0)), (2, .ref (b + 111)), (3, .ref (b + 124)), (4, .ref (b + 125)), (5, .int (nI i))]) [2, 3, 4, 5, 6, 7] rfl ?_
    exact next _ _ _ _ h3
  · refine zv_aload_n (pc := 1415) B 5 rfl dL_law_1415 ?_
    refine zv_iconst (pc := 1416) (v := 0) B rfl dL_law_1416 ?_
    refine zv_lald (pc := 1417) (jj := 0) B (zat (by decide) (z124 _ _ _)) rfl (by decide) (by decide) dL_law_1417 ?_
    refine zv_iload (pc := 1418) B 0 rfl dL_law_1418 ?_
    refine zv_i2l (pc := 1420) B dL_law_1420 ?_
    refine zv_lcmp (pc := 1421) B dL_law_1421 ?_
    refine zv_if_eq (pc := 1422) (tgt := 1427) B dL_law_1422 rfl (fun _ => ?_) (fun h9 => absurd ((lg_cmp_eq _ _).mpr (h2 hc)) h9)
    refine zv_goto (pc := 1427) (tgt := 2100) B rfl dL_law_1427 ?_
    refine zv_widen (pc := 2100) (k' := k + 5) (n' := n + 28) (by omega) (by omega) ?_
    refine zv_loc (L' := [(0, .ref q0), (1, .ref (b + 0)), (2, .ref (b + 111)), (3, .ref (b + 124)), (4, .ref (b + 125)), (5, .int (nI i))]) [2, 3, 4, 5, 6, 7] rfl ?_
    exact next _ _ _ _ h3
set_option maxRecDepth 100000 in
set_option maxHeartbeats 400000 in
theorem law_keyOf {Inv : Nat → (Nat → Nat → Int32) → (Nat → Int64) → (Nat → Nat → Int32) → Prop} (hok : zInvOK Inv) (hP : zP_keyOf Inv) {p : Program} {l : Launch} {e : Env} {s : State} {m : MethodId} {args : Array Value} {below : List Frame} {meth : Method} {c9 : Code} {Q : State → Prop} {b : Nat} {E : zE} (B : zC p s m args meth c9 cL_law 9 "ToneGraphLaw" E b) (hlf : l.stackTraces = false) {q0 L : Nat} {xs : Nat → Int32} (hX : va_X q0 L xs s s.heap) (hbl : q0 < s.heap.size) (hb0 : s.heap.size = b) {k n i j : Nat} (hk : k + 5 ≤ 603072) (hn : n + 28 ≤ 7215210) (hi : i + 5 ≤ L) (hL : L < 2 ^ 31) {c : Nat → Nat → Int32} {w : Nat → Int64} {en : Nat → Nat} {ea : Nat → Nat → Int32} (hI : Inv j c w ea) (hj : j < 512) (next : ∀ (c' : Nat → Nat → Int32) (w' : Nat → Int64) (en' : Nat → Nat) (ea' : Nat → Nat → Int32), Inv (j + 1) c' w' ea' → zV p l e room_1 s m args below meth c9 Q 9 b (zH E b c' w' en' ea') 2100 [(0, .ref q0), (1, .ref (b + 0)), (2, .ref (b + 111)), (3, .ref (b + 124)), (4, .ref (b + 125)), (5, .int (nI i))] [] (k + 5) (n + 28)) : zV p l e room_1 s m args below meth c9 Q 9 b (zH E b c w en ea) 1430 [(0, .ref q0), (1, .ref (b + 0)), (2, .ref (b + 111)), (3, .ref (b + 124)), (4, .ref (b + 125)), (5, .int (nI i))] [] k n := by
  obtain ⟨hg, hL9, hD, ht, hA, h0, hO, hS⟩ := hok j c w ea hI (by omega)
  refine zv_aload_n (pc := 1430) B 1 rfl dL_law_1430 ?_
  refine zv_aload_n (pc := 1431) B 0 rfl dL_law_1431 ?_
  refine zv_iload (pc := 1432) B 5 rfl dL_law_1432 ?_
  refine zv_iconst (pc := 1434) (v := 1) B rfl dL_law_1434 ?_
  refine zv_iadd (pc := 1435) B dL_law_1435 ?_
  refine zv_topi (y := nI (i + 1)) (nI_add i 1) ?_
  refine zv_sld (pc := 1436) (jj := (i + 1)) B hX hbl hb0 rfl (by omega) hL dL_law_1436 ?_
  refine zv_aload_n (pc := 1437) B 3 rfl dL_law_1437 ?_
  refine zv_callSW (pc := 1438) (As := [.ref (b + 0), .int (xs (i + 1)), .ref (b + 124)]) (rest := []) B (k_L_keyOf l E b c w en ea (xs (i + 1)) hg hlf) (zcwSW 3 8 B wm_L_198 ws_L_keyOf wn_L wcode_L_keyOf (by decide +kernel) ⟨(Nat.le_of_ble_eq_true rfl), (Nat.le_of_ble_eq_true rfl)⟩) rfl zid rfl (Nat.le_of_ble_eq_true rfl) dL_law_1438 ⟨(show _ ≤ 603072 by omega), (show _ ≤ 7215210 by omega)⟩ (fun v9 u9 hv9 => ?_)
  obtain ⟨rfl, hgw, hFw⟩ := hv9
  refine zv_st (st' := [.int ((w_L_keyOf c w (xs (i + 1))).1)]) rfl ?_
  refine zv_istore (pc := 1441) (L' := [(6, .int ((w_L_keyOf c w (xs (i + 1))).1)), (0, .ref q0), (1, .ref (b + 0)), (2, .ref (b + 111)), (3, .ref (b + 124)), (4, .ref (b + 125)), (5, .int (nI i))]) B (by decide) rfl dL_law_1441 ?_
  refine zv_aload_n (pc := 1443) B 3 rfl dL_law_1443 ?_
  refine zv_aload_n (pc := 1444) B 1 rfl dL_law_1444 ?_
  refine zv_iload (pc := 1445) B 6 rfl dL_law_1445 ?_
  refine zv_iconst (pc := 1447) (v := 1) B rfl dL_law_1447 ?_
  refine zv_iadd (pc := 1448) B dL_law_1448 ?_
  refine zv_topi (y := nI (i + 1)) (nI_add i 1) ?_
  refine zv_sld (pc := 1449) (jj := (i + 1)) B hX hbl hb0 rfl (by omega) hL dL_law_1449 ?_
  refine zv_callV (pc := 1450) (As := [.int (xs (i + 1))]) (rest := []) B (k_X7_keyOf l E b _ _ _ _ (xs (i + 1)) hgw) (zcwV 1 3 B wm_L_200 wi_X7_keyOf wv_X7_keyOf wn_X7 wcode_X7_keyOf rfl (by decide +kernel) ⟨(Nat.le_of_ble_eq_true rfl), (Nat.le_of_ble_eq_true rfl)⟩) rfl (zrecv B (zat (by decide) (z111 _ _ _)) cl7) zid rfl (Nat.le_of_ble_eq_true rfl) dL_law_1450 ⟨(show _ ≤ 603072 by omega), (show _ ≤ 7215210 by omega)⟩ (fun v9 u9 hv9 => ?_)
  obtain ⟨rfl, hF7, hg7⟩ := hv9
  refine zv_st (st' := [.int ((m_X7_keyOf ((w_L_keyOf c w (xs (i + 1))).2.1) (xs (i + 1))).1)]) rfl ?_
  obtain ⟨h1, h2, h3⟩ := hP j c w en ea (xs (i + 1)) hI hj hFw hgw hF7 hg7
  refine zv_istore (pc := 1453) (L' := [(7, .int ((m_X7_keyOf ((w_L_keyOf c w (xs (i + 1))).2.1) (xs (i + 1))).1)), (6, .int ((w_L_keyOf c w (xs (i + 1))).1)), (0, .ref q0), (1, .ref (b + 0)), (2, .ref (b + 111)), (3, .ref (b + 124)), (4, .ref (b + 125)), (5, .int (nI i))]) B (by decide) rfl dL_law_1453 ?_
  refine zv_aload_n (pc := 1455) B 4 rfl dL_law_1455 ?_
  refine zv_callV (pc := 1456) (As := []) (rest := []) B (k_X7_thrown l E b _ _ _ _ ) (zcwV 0 0 B wm_L_123 wi_X7_thrown wv_X7_thrown wn_X7 wcode_X7_thrown rfl (by decide +kernel) ⟨(Nat.le_of_ble_eq_true rfl), (Nat.le_of_ble_eq_true rfl)⟩) rfl (zrecv B (zat (by decide) (z111 _ _ _)) cl7) zid rfl (Nat.le_of_ble_eq_true rfl) dL_law_1456 ⟨(show _ ≤ 603072 by omega), (show _ ≤ 7215210 by omega)⟩ (fun v9 u9 hv9 => ?_)
  subst hv9
  refine zv_st (st' := [.int (m_X7_thrown ((m_X7_keyOf ((w_L_keyOf c w (xs (i + 1))).2.1) (xs (i + 1))).2))]) rfl ?_
  refine zv_iload (pc := 1459) B 1 rfl dL_law_1459 ?_
  refine zv_icmp_eq (pc := 1461) (tgt := 1466) B dL_law_1461 rfl (fun _ => ?_) (fun h9 => absurd h1 h9)
  refine zv_iload (pc := 1466) B 1 rfl dL_law_1466 ?_
  refine zv_if_ne (pc := 1468) (tgt := 1483) B dL_law_1468 rfl (fun hc => ?_) (fun hc => ?_)
  · refine zv_goto (pc := 1483) (tgt := 2100) B rfl dL_law_1483 ?_
    refine zv_widen (pc := 2100) (k' := k + 5) (n' := n + 28) (by omega) (by omega) ?_
    refine zv_loc (L' := [(0, .ref q0), (1, .ref (b + 0)), (2, .ref (b + 111)), (3, .ref (b + 124)), (4, .ref (b + 125)), (5, .int (nI i))]) [2, 3, 4, 5, 6, 7] rfl ?_
    exact next _ _ _ _ h3
  · refine zv_aload_n (pc := 1471) B 5 rfl dL_law_1471 ?_
    refine zv_iconst (pc := 1472) (v := 0) B rfl dL_law_1472 ?_
    refine zv_lald (pc := 1473) (jj := 0) B (zat (by decide) (z124 _ _ _)) rfl (by decide) (by decide) dL_law_1473 ?_
    refine zv_iload (pc := 1474) B 0 rfl dL_law_1474 ?_
    refine zv_i2l (pc := 1476) B dL_law_1476 ?_
    refine zv_lcmp (pc := 1477) B dL_law_1477 ?_
    refine zv_if_eq (pc := 1478) (tgt := 1483) B dL_law_1478 rfl (fun _ => ?_) (fun h9 => absurd ((lg_cmp_eq _ _).mpr (h2 hc)) h9)
    refine zv_goto (pc := 1483) (tgt := 2100) B rfl dL_law_1483 ?_
    refine zv_widen (pc := 2100) (k' := k + 5) (n' := n + 28) (by omega) (by omega) ?_
    refine zv_loc (L' := [(0, .ref q0), (1, .ref (b + 0)), (2, .ref (b + 111)), (3, .ref (b + 124)), (4, .ref (b + 125)), (5, .int (nI i))]) [2, 3, 4, 5, 6, 7] rfl ?_
    exact next _ _ _ _ h3
set_option maxRecDepth 100000 in
set_option maxHeartbeats 400000 in
theorem law_levelOf {Inv : Nat → (Nat → Nat → Int32) → (Nat → Int64) → (Nat → Nat → Int32) → Prop} (hok : zInvOK Inv) (hP : zP_levelOf Inv) {p : Program} {l : Launch} {e : Env} {s : State} {m : MethodId} {args : Array Value} {below : List Frame} {meth : Method} {c9 : Code} {Q : State → Prop} {b : Nat} {E : zE} (B : zC p s m args meth c9 cL_law 9 "ToneGraphLaw" E b) (hlf : l.stackTraces = false) {q0 L : Nat} {xs : Nat → Int32} (hX : va_X q0 L xs s s.heap) (hbl : q0 < s.heap.size) (hb0 : s.heap.size = b) {k n i j : Nat} (hk : k + 5 ≤ 603072) (hn : n + 28 ≤ 7215210) (hi : i + 5 ≤ L) (hL : L < 2 ^ 31) {c : Nat → Nat → Int32} {w : Nat → Int64} {en : Nat → Nat} {ea : Nat → Nat → Int32} (hI : Inv j c w ea) (hj : j < 512) (next : ∀ (c' : Nat → Nat → Int32) (w' : Nat → Int64) (en' : Nat → Nat) (ea' : Nat → Nat → Int32), Inv (j + 1) c' w' ea' → zV p l e room_1 s m args below meth c9 Q 9 b (zH E b c' w' en' ea') 2100 [(0, .ref q0), (1, .ref (b + 0)), (2, .ref (b + 111)), (3, .ref (b + 124)), (4, .ref (b + 125)), (5, .int (nI i))] [] (k + 5) (n + 28)) : zV p l e room_1 s m args below meth c9 Q 9 b (zH E b c w en ea) 1486 [(0, .ref q0), (1, .ref (b + 0)), (2, .ref (b + 111)), (3, .ref (b + 124)), (4, .ref (b + 125)), (5, .int (nI i))] [] k n := by
  obtain ⟨hg, hL9, hD, ht, hA, h0, hO, hS⟩ := hok j c w ea hI (by omega)
  refine zv_aload_n (pc := 1486) B 1 rfl dL_law_1486 ?_
  refine zv_aload_n (pc := 1487) B 0 rfl dL_law_1487 ?_
  refine zv_iload (pc := 1488) B 5 rfl dL_law_1488 ?_
  refine zv_iconst (pc := 1490) (v := 1) B rfl dL_law_1490 ?_
  refine zv_iadd (pc := 1491) B dL_law_1491 ?_
  refine zv_topi (y := nI (i + 1)) (nI_add i 1) ?_
  refine zv_sld (pc := 1492) (jj := (i + 1)) B hX hbl hb0 rfl (by omega) hL dL_law_1492 ?_
  refine zv_aload_n (pc := 1493) B 3 rfl dL_law_1493 ?_
  refine zv_callSW (pc := 1494) (As := [.ref (b + 0), .int (xs (i + 1)), .ref (b + 124)]) (rest := []) B (k_L_levelOf l E b c w en ea (xs (i + 1)) hg hlf) (zcwSW 3 8 B wm_L_201 ws_L_levelOf wn_L wcode_L_levelOf (by decide +kernel) ⟨(Nat.le_of_ble_eq_true rfl), (Nat.le_of_ble_eq_true rfl)⟩) rfl zid rfl (Nat.le_of_ble_eq_true rfl) dL_law_1494 ⟨(show _ ≤ 603072 by omega), (show _ ≤ 7215210 by omega)⟩ (fun v9 u9 hv9 => ?_)
  obtain ⟨rfl, hgw, hFw⟩ := hv9
  refine zv_st (st' := [.int ((w_L_levelOf c w ea (xs (i + 1))).1)]) rfl ?_
  refine zv_istore (pc := 1497) (L' := [(6, .int ((w_L_levelOf c w ea (xs (i + 1))).1)), (0, .ref q0), (1, .ref (b + 0)), (2, .ref (b + 111)), (3, .ref (b + 124)), (4, .ref (b + 125)), (5, .int (nI i))]) B (by decide) rfl dL_law_1497 ?_
  refine zv_aload_n (pc := 1499) B 3 rfl dL_law_1499 ?_
  refine zv_aload_n (pc := 1500) B 1 rfl dL_law_1500 ?_
  refine zv_iload (pc := 1501) B 6 rfl dL_law_1501 ?_
  refine zv_iconst (pc := 1503) (v := 1) B rfl dL_law_1503 ?_
  refine zv_iadd (pc := 1504) B dL_law_1504 ?_
  refine zv_topi (y := nI (i + 1)) (nI_add i 1) ?_
  refine zv_sld (pc := 1505) (jj := (i + 1)) B hX hbl hb0 rfl (by omega) hL dL_law_1505 ?_
  refine zv_callV (pc := 1506) (As := [.int (xs (i + 1))]) (rest := []) B (k_X7_levelOf l E b _ _ _ _ (xs (i + 1)) (T := 4000 * j) (by omega) (by rw [hFw 112 (by omega)]; exact hL9) hgw) (zcwV 1 4 B wm_L_203 wi_X7_levelOf wv_X7_levelOf wn_X7 wcode_X7_levelOf rfl (by decide +kernel) ⟨(Nat.le_of_ble_eq_true rfl), (Nat.le_of_ble_eq_true rfl)⟩) rfl (zrecv B (zat (by decide) (z111 _ _ _)) cl7) zid rfl (Nat.le_of_ble_eq_true rfl) dL_law_1506 ⟨(show _ ≤ 603072 by omega), (show _ ≤ 7215210 by omega)⟩ (fun v9 u9 hv9 => ?_)
  obtain ⟨rfl, hF7, hg7⟩ := hv9
  refine zv_st (st' := [.int ((m_X7_levelOf ((w_L_levelOf c w ea (xs (i + 1))).2.1) (xs (i + 1))).1)]) rfl ?_
  obtain ⟨h1, h2, h3⟩ := hP j c w en ea (xs (i + 1)) hI hj hFw hgw hF7 hg7
  refine zv_istore (pc := 1509) (L' := [(7, .int ((m_X7_levelOf ((w_L_levelOf c w ea (xs (i + 1))).2.1) (xs (i + 1))).1)), (6, .int ((w_L_levelOf c w ea (xs (i + 1))).1)), (0, .ref q0), (1, .ref (b + 0)), (2, .ref (b + 111)), (3, .ref (b + 124)), (4, .ref (b + 125)), (5, .int (nI i))]) B (by decide) rfl dL_law_1509 ?_
  refine zv_aload_n (pc := 1511) B 4 rfl dL_law_1511 ?_
  refine zv_callV (pc := 1512) (As := []) (rest := []) B (k_X7_thrown l E b _ _ _ _ ) (zcwV 0 0 B wm_L_123 wi_X7_thrown wv_X7_thrown wn_X7 wcode_X7_thrown rfl (by decide +kernel) ⟨(Nat.le_of_ble_eq_true rfl), (Nat.le_of_ble_eq_true rfl)⟩) rfl (zrecv B (zat (by decide) (z111 _ _ _)) cl7) zid rfl (Nat.le_of_ble_eq_true rfl) dL_law_1512 ⟨(show _ ≤ 603072 by omega), (show _ ≤ 7215210 by omega)⟩ (fun v9 u9 hv9 => ?_)
  subst hv9
  refine zv_st (st' := [.int (m_X7_thrown ((m_X7_levelOf ((w_L_levelOf c w ea (xs (i + 1))).2.1) (xs (i + 1))).2))]) rfl ?_
  refine zv_iload (pc := 1515) B 1 rfl dL_law_1515 ?_
  refine zv_icmp_eq (pc := 1517) (tgt := 1522) B dL_law_1517 rfl (fun _ => ?_) (fun h9 => absurd h1 h9)
  refine zv_iload (pc := 1522) B 1 rfl dL_law_1522 ?_
  refine zv_if_ne (pc := 1524) (tgt := 1539) B dL_law_1524 rfl (fun hc => ?_) (fun hc => ?_)
  · refine zv_goto (pc := 1539) (tgt := 2100) B rfl dL_law_1539 ?_
    refine zv_widen (pc := 2100) (k' := k + 5) (n' := n + 28) (by omega) (by omega) ?_
    refine zv_loc (L' := [(0, .ref q0), (1, .ref (b + 0)), (2, .ref (b + 111)), (3, .ref (b + 124)), (4, .ref (b + 125)), (5, .int (nI i))]) [2, 3, 4, 5, 6, 7] rfl ?_
    exact next _ _ _ _ h3
  · refine zv_aload_n (pc := 1527) B 5 rfl dL_law_1527 ?_
    refine zv_iconst (pc := 1528) (v := 0) B rfl dL_law_1528 ?_
    refine zv_lald (pc := 1529) (jj := 0) B (zat (by decide) (z124 _ _ _)) rfl (by decide) (by decide) dL_law_1529 ?_
    refine zv_iload (pc := 1530) B 0 rfl dL_law_1530 ?_
    refine zv_i2l (pc := 1532) B dL_law_1532 ?_
    refine zv_lcmp (pc := 1533) B dL_law_1533 ?_
    refine zv_if_eq (pc := 1534) (tgt := 1539) B dL_law_1534 rfl (fun _ => ?_) (fun h9 => absurd ((lg_cmp_eq _ _).mpr (h2 hc)) h9)
    refine zv_goto (pc := 1539) (tgt := 2100) B rfl dL_law_1539 ?_
    refine zv_widen (pc := 2100) (k' := k + 5) (n' := n + 28) (by omega) (by omega) ?_
    refine zv_loc (L' := [(0, .ref q0), (1, .ref (b + 0)), (2, .ref (b + 111)), (3, .ref (b + 124)), (4, .ref (b + 125)), (5, .int (nI i))]) [2, 3, 4, 5, 6, 7] rfl ?_
    exact next _ _ _ _ h3
set_option maxRecDepth 100000 in
set_option maxHeartbeats 400000 in
theorem law_phaseOf {Inv : Nat → (Nat → Nat → Int32) → (Nat → Int64) → (Nat → Nat → Int32) → Prop} (hok : zInvOK Inv) (hP : zP_phaseOf Inv) {p : Program} {l : Launch} {e : Env} {s : State} {m : MethodId} {args : Array Value} {below : List Frame} {meth : Method} {c9 : Code} {Q : State → Prop} {b : Nat} {E : zE} (B : zC p s m args meth c9 cL_law 9 "ToneGraphLaw" E b) (hlf : l.stackTraces = false) {q0 L : Nat} {xs : Nat → Int32} (hX : va_X q0 L xs s s.heap) (hbl : q0 < s.heap.size) (hb0 : s.heap.size = b) {k n i j : Nat} (hk : k + 5 ≤ 603072) (hn : n + 28 ≤ 7215210) (hi : i + 5 ≤ L) (hL : L < 2 ^ 31) {c : Nat → Nat → Int32} {w : Nat → Int64} {en : Nat → Nat} {ea : Nat → Nat → Int32} (hI : Inv j c w ea) (hj : j < 512) (next : ∀ (c' : Nat → Nat → Int32) (w' : Nat → Int64) (en' : Nat → Nat) (ea' : Nat → Nat → Int32), Inv (j + 1) c' w' ea' → zV p l e room_1 s m args below meth c9 Q 9 b (zH E b c' w' en' ea') 2100 [(0, .ref q0), (1, .ref (b + 0)), (2, .ref (b + 111)), (3, .ref (b + 124)), (4, .ref (b + 125)), (5, .int (nI i))] [] (k + 5) (n + 28)) : zV p l e room_1 s m args below meth c9 Q 9 b (zH E b c w en ea) 1542 [(0, .ref q0), (1, .ref (b + 0)), (2, .ref (b + 111)), (3, .ref (b + 124)), (4, .ref (b + 125)), (5, .int (nI i))] [] k n := by
  obtain ⟨hg, hL9, hD, ht, hA, h0, hO, hS⟩ := hok j c w ea hI (by omega)
  refine zv_aload_n (pc := 1542) B 1 rfl dL_law_1542 ?_
  refine zv_aload_n (pc := 1543) B 0 rfl dL_law_1543 ?_
  refine zv_iload (pc := 1544) B 5 rfl dL_law_1544 ?_
  refine zv_iconst (pc := 1546) (v := 1) B rfl dL_law_1546 ?_
  refine zv_iadd (pc := 1547) B dL_law_1547 ?_
  refine zv_topi (y := nI (i + 1)) (nI_add i 1) ?_
  refine zv_sld (pc := 1548) (jj := (i + 1)) B hX hbl hb0 rfl (by omega) hL dL_law_1548 ?_
  refine zv_aload_n (pc := 1549) B 3 rfl dL_law_1549 ?_
  refine zv_callSW (pc := 1550) (As := [.ref (b + 0), .int (xs (i + 1)), .ref (b + 124)]) (rest := []) B (k_L_phaseOf l E b c w en ea (xs (i + 1)) hg hlf) (zcwSW 3 8 B wm_L_204 ws_L_phaseOf wn_L wcode_L_phaseOf (by decide +kernel) ⟨(Nat.le_of_ble_eq_true rfl), (Nat.le_of_ble_eq_true rfl)⟩) rfl zid rfl (Nat.le_of_ble_eq_true rfl) dL_law_1550 ⟨(show _ ≤ 603072 by omega), (show _ ≤ 7215210 by omega)⟩ (fun v9 u9 hv9 => ?_)
  obtain ⟨rfl, hgw, hFw⟩ := hv9
  refine zv_st (st' := [.int ((w_L_phaseOf c w (xs (i + 1))).1)]) rfl ?_
  refine zv_istore (pc := 1553) (L' := [(6, .int ((w_L_phaseOf c w (xs (i + 1))).1)), (0, .ref q0), (1, .ref (b + 0)), (2, .ref (b + 111)), (3, .ref (b + 124)), (4, .ref (b + 125)), (5, .int (nI i))]) B (by decide) rfl dL_law_1553 ?_
  refine zv_aload_n (pc := 1555) B 3 rfl dL_law_1555 ?_
  refine zv_aload_n (pc := 1556) B 1 rfl dL_law_1556 ?_
  refine zv_iload (pc := 1557) B 6 rfl dL_law_1557 ?_
  refine zv_iconst (pc := 1559) (v := 1) B rfl dL_law_1559 ?_
  refine zv_iadd (pc := 1560) B dL_law_1560 ?_
  refine zv_topi (y := nI (i + 1)) (nI_add i 1) ?_
  refine zv_sld (pc := 1561) (jj := (i + 1)) B hX hbl hb0 rfl (by omega) hL dL_law_1561 ?_
  refine zv_callV (pc := 1562) (As := [.int (xs (i + 1))]) (rest := []) B (k_X7_phaseOf l E b _ _ _ _ (xs (i + 1)) hgw) (zcwV 1 3 B wm_L_206 wi_X7_phaseOf wv_X7_phaseOf wn_X7 wcode_X7_phaseOf rfl (by decide +kernel) ⟨(Nat.le_of_ble_eq_true rfl), (Nat.le_of_ble_eq_true rfl)⟩) rfl (zrecv B (zat (by decide) (z111 _ _ _)) cl7) zid rfl (Nat.le_of_ble_eq_true rfl) dL_law_1562 ⟨(show _ ≤ 603072 by omega), (show _ ≤ 7215210 by omega)⟩ (fun v9 u9 hv9 => ?_)
  obtain ⟨rfl, hF7, hg7⟩ := hv9
  refine zv_st (st' := [.int ((m_X7_phaseOf ((w_L_phaseOf c w (xs (i + 1))).2.1) (xs (i + 1))).1)]) rfl ?_
  obtain ⟨h1, h2, h3⟩ := hP j c w en ea (xs (i + 1)) hI hj hFw hgw hF7 hg7
  refine zv_istore (pc := 1565) (L' := [(7, .int ((m_X7_phaseOf ((w_L_phaseOf c w (xs (i + 1))).2.1) (xs (i + 1))).1)), (6, .int ((w_L_phaseOf c w (xs (i + 1))).1)), (0, .ref q0), (1, .ref (b + 0)), (2, .ref (b + 111)), (3, .ref (b + 124)), (4, .ref (b + 125)), (5, .int (nI i))]) B (by decide) rfl dL_law_1565 ?_
  refine zv_aload_n (pc := 1567) B 4 rfl dL_law_1567 ?_
  refine zv_callV (pc := 1568) (As := []) (rest := []) B (k_X7_thrown l E b _ _ _ _ ) (zcwV 0 0 B wm_L_123 wi_X7_thrown wv_X7_thrown wn_X7 wcode_X7_thrown rfl (by decide +kernel) ⟨(Nat.le_of_ble_eq_true rfl), (Nat.le_of_ble_eq_true rfl)⟩) rfl (zrecv B (zat (by decide) (z111 _ _ _)) cl7) zid rfl (Nat.le_of_ble_eq_true rfl) dL_law_1568 ⟨(show _ ≤ 603072 by omega), (show _ ≤ 7215210 by omega)⟩ (fun v9 u9 hv9 => ?_)
  subst hv9
  refine zv_st (st' := [.int (m_X7_thrown ((m_X7_phaseOf ((w_L_phaseOf c w (xs (i + 1))).2.1) (xs (i + 1))).2))]) rfl ?_
  refine zv_iload (pc := 1571) B 1 rfl dL_law_1571 ?_
  refine zv_icmp_eq (pc := 1573) (tgt := 1578) B dL_law_1573 rfl (fun _ => ?_) (fun h9 => absurd h1 h9)
  refine zv_iload (pc := 1578) B 1 rfl dL_law_1578 ?_
  refine zv_if_ne (pc := 1580) (tgt := 1595) B dL_law_1580 rfl (fun hc => ?_) (fun hc => ?_)
  · refine zv_goto (pc := 1595) (tgt := 2100) B rfl dL_law_1595 ?_
    refine zv_widen (pc := 2100) (k' := k + 5) (n' := n + 28) (by omega) (by omega) ?_
    refine zv_loc (L' := [(0, .ref q0), (1, .ref (b + 0)), (2, .ref (b + 111)), (3, .ref (b + 124)), (4, .ref (b + 125)), (5, .int (nI i))]) [2, 3, 4, 5, 6, 7] rfl ?_
    exact next _ _ _ _ h3
  · refine zv_aload_n (pc := 1583) B 5 rfl dL_law_1583 ?_
    refine zv_iconst (pc := 1584) (v := 0) B rfl dL_law_1584 ?_
    refine zv_lald (pc := 1585) (jj := 0) B (zat (by decide) (z124 _ _ _)) rfl (by decide) (by decide) dL_law_1585 ?_
    refine zv_iload (pc := 1586) B 0 rfl dL_law_1586 ?_
    refine zv_i2l (pc := 1588) B dL_law_1588 ?_
    refine zv_lcmp (pc := 1589) B dL_law_1589 ?_
    refine zv_if_eq (pc := 1590) (tgt := 1595) B dL_law_1590 rfl (fun _ => ?_) (fun h9 => absurd ((lg_cmp_eq _ _).mpr (h2 hc)) h9)
    refine zv_goto (pc := 1595) (tgt := 2100) B rfl dL_law_1595 ?_
    refine zv_widen (pc := 2100) (k' := k + 5) (n' := n + 28) (by omega) (by omega) ?_
    refine zv_loc (L' := [(0, .ref q0), (1, .ref (b + 0)), (2, .ref (b + 111)), (3, .ref (b + 124)), (4, .ref (b + 125)), (5, .int (nI i))]) [2, 3, 4, 5, 6, 7] rfl ?_
    exact next _ _ _ _ h3
set_option maxRecDepth 100000 in
set_option maxHeartbeats 400000 in
theorem law_stolen {Inv : Nat → (Nat → Nat → Int32) → (Nat → Int64) → (Nat → Nat → Int32) → Prop} (hok : zInvOK Inv) (hP : zP_stolen Inv) {p : Program} {l : Launch} {e : Env} {s : State} {m : MethodId} {args : Array Value} {below : List Frame} {meth : Method} {c9 : Code} {Q : State → Prop} {b : Nat} {E : zE} (B : zC p s m args meth c9 cL_law 9 "ToneGraphLaw" E b) (hlf : l.stackTraces = false) {q0 L : Nat} {xs : Nat → Int32} (hX : va_X q0 L xs s s.heap) (hbl : q0 < s.heap.size) (hb0 : s.heap.size = b) {k n i j : Nat} (hk : k + 5 ≤ 603072) (hn : n + 28 ≤ 7215210) (hi : i + 5 ≤ L) (hL : L < 2 ^ 31) {c : Nat → Nat → Int32} {w : Nat → Int64} {en : Nat → Nat} {ea : Nat → Nat → Int32} (hI : Inv j c w ea) (hj : j < 512) (next : ∀ (c' : Nat → Nat → Int32) (w' : Nat → Int64) (en' : Nat → Nat) (ea' : Nat → Nat → Int32), Inv (j + 1) c' w' ea' → zV p l e room_1 s m args below meth c9 Q 9 b (zH E b c' w' en' ea') 2100 [(0, .ref q0), (1, .ref (b + 0)), (2, .ref (b + 111)), (3, .ref (b + 124)), (4, .ref (b + 125)), (5, .int (nI i))] [] (k + 5) (n + 28)) : zV p l e room_1 s m args below meth c9 Q 9 b (zH E b c w en ea) 1598 [(0, .ref q0), (1, .ref (b + 0)), (2, .ref (b + 111)), (3, .ref (b + 124)), (4, .ref (b + 125)), (5, .int (nI i))] [] k n := by
  obtain ⟨hg, hL9, hD, ht, hA, h0, hO, hS⟩ := hok j c w ea hI (by omega)
  refine zv_aload_n (pc := 1598) B 1 rfl dL_law_1598 ?_
  refine zv_callV (pc := 1599) (As := []) (rest := []) B (k_X6_stolen l E b _ _ _ _  hg) (zcwV 0 7 B wm_L_207 wi_X6_stolen wv_X6_stolen wn_X6 wcode_X6_stolen rfl (by decide +kernel) ⟨(Nat.le_of_ble_eq_true rfl), (Nat.le_of_ble_eq_true rfl)⟩) rfl (zrecv B (zat (by decide) (z0 _ _ _)) cl6) zid rfl (Nat.le_of_ble_eq_true rfl) dL_law_1599 ⟨(show _ ≤ 603072 by omega), (show _ ≤ 7215210 by omega)⟩ (fun v9 u9 hv9 => ?_)
  subst hv9
  refine zv_st (st' := [.int (m_X6_stolen c)]) rfl ?_
  refine zv_aload_n (pc := 1602) B 2 rfl dL_law_1602 ?_
  refine zv_callV (pc := 1603) (As := []) (rest := [.int (m_X6_stolen c)]) B (k_X7_stolen l E b _ _ _ _ hg) (zcwV 0 1 B wm_L_210 wi_X7_stolen wv_X7_stolen wn_X7 wcode_X7_stolen rfl (by decide +kernel) ⟨(Nat.le_of_ble_eq_true rfl), (Nat.le_of_ble_eq_true rfl)⟩) rfl (zrecv B (zat (by decide) (z111 _ _ _)) cl7) zid rfl (Nat.le_of_ble_eq_true rfl) dL_law_1603 ⟨(show _ ≤ 603072 by omega), (show _ ≤ 7215210 by omega)⟩ (fun v9 u9 hv9 => ?_)
  obtain ⟨rfl, hF7, hg7⟩ := hv9
  refine zv_st (st' := [.int ((m_X7_stolen c).1), .int (m_X6_stolen c)]) rfl ?_
  obtain ⟨h1, h3⟩ := hP j c w en ea hI hj hF7 hg7
  refine zv_icmp_eq (pc := 1606) (tgt := 2100) B dL_law_1606 rfl (fun _ => ?_) (fun h9 => absurd h1 h9)
  refine zv_widen (pc := 2100) (k' := k + 5) (n' := n + 28) (by omega) (by omega) ?_
  exact next _ _ _ _ h3
set_option maxRecDepth 100000 in
set_option maxHeartbeats 400000 in
theorem law_play {Inv : Nat → (Nat → Nat → Int32) → (Nat → Int64) → (Nat → Nat → Int32) → Prop} (hok : zInvOK Inv) (hP : zP_play Inv) {p : Program} {l : Launch} {e : Env} {s : State} {m : MethodId} {args : Array Value} {below : List Frame} {meth : Method} {c9 : Code} {Q : State → Prop} {b : Nat} {E : zE} (B : zC p s m args meth c9 cL_law 9 "ToneGraphLaw" E b) (hlf : l.stackTraces = false) {q0 L : Nat} {xs : Nat → Int32} (hX : va_X q0 L xs s s.heap) (hbl : q0 < s.heap.size) (hb0 : s.heap.size = b) {k n i j : Nat} (hk : k + 5 ≤ 603072) (hn : n + 28 ≤ 7215210) (hi : i + 5 ≤ L) (hL : L < 2 ^ 31) {c : Nat → Nat → Int32} {w : Nat → Int64} {en : Nat → Nat} {ea : Nat → Nat → Int32} (hI : Inv j c w ea) (hj : j < 512) (next : ∀ (c' : Nat → Nat → Int32) (w' : Nat → Int64) (en' : Nat → Nat) (ea' : Nat → Nat → Int32), Inv (j + 1) c' w' ea' → zV p l e room_1 s m args below meth c9 Q 9 b (zH E b c' w' en' ea') 2100 [(0, .ref q0), (1, .ref (b + 0)), (2, .ref (b + 111)), (3, .ref (b + 124)), (4, .ref (b + 125)), (5, .int (nI i))] [] (k + 5) (n + 28)) : zV p l e room_1 s m args below meth c9 Q 9 b (zH E b c w en ea) 1611 [(0, .ref q0), (1, .ref (b + 0)), (2, .ref (b + 111)), (3, .ref (b + 124)), (4, .ref (b + 125)), (5, .int (nI i))] [] k n := by
  obtain ⟨hg, hL9, hD, ht, hA, h0, hO, hS⟩ := hok j c w ea hI (by omega)
  refine zv_aload_n (pc := 1611) B 1 rfl dL_law_1611 ?_
  refine zv_aload_n (pc := 1612) B 0 rfl dL_law_1612 ?_
  refine zv_iload (pc := 1613) B 5 rfl dL_law_1613 ?_
  refine zv_iconst (pc := 1615) (v := 1) B rfl dL_law_1615 ?_
  refine zv_iadd (pc := 1616) B dL_law_1616 ?_
  refine zv_topi (y := nI (i + 1)) (nI_add i 1) ?_
  refine zv_sld (pc := 1617) (jj := (i + 1)) B hX hbl hb0 rfl (by omega) hL dL_law_1617 ?_
  refine zv_aload_n (pc := 1618) B 3 rfl dL_law_1618 ?_
  refine zv_callSW (pc := 1619) (As := [.ref (b + 0), .int (xs (i + 1)), .ref (b + 124)]) (rest := []) B (k_L_play l E b c w en ea (xs (i + 1)) hg hlf) (zcwSW 3 8 B wm_L_211 ws_L_play wn_L wcode_L_play (by decide +kernel) ⟨(Nat.le_of_ble_eq_true rfl), (Nat.le_of_ble_eq_true rfl)⟩) rfl zid rfl (Nat.le_of_ble_eq_true rfl) dL_law_1619 ⟨(show _ ≤ 603072 by omega), (show _ ≤ 7215210 by omega)⟩ (fun v9 u9 hv9 => ?_)
  obtain ⟨rfl, hgw, hFw⟩ := hv9
  refine zv_st (st' := [.int ((w_L_play c w ea (xs (i + 1))).1)]) rfl ?_
  refine zv_istore (pc := 1622) (L' := [(6, .int ((w_L_play c w ea (xs (i + 1))).1)), (0, .ref q0), (1, .ref (b + 0)), (2, .ref (b + 111)), (3, .ref (b + 124)), (4, .ref (b + 125)), (5, .int (nI i))]) B (by decide) rfl dL_law_1622 ?_
  refine zv_aload_n (pc := 1624) B 3 rfl dL_law_1624 ?_
  refine zv_aload_n (pc := 1625) B 1 rfl dL_law_1625 ?_
  refine zv_iload (pc := 1626) B 6 rfl dL_law_1626 ?_
  refine zv_iconst (pc := 1628) (v := 1) B rfl dL_law_1628 ?_
  refine zv_iadd (pc := 1629) B dL_law_1629 ?_
  refine zv_topi (y := nI (i + 1)) (nI_add i 1) ?_
  refine zv_sld (pc := 1630) (jj := (i + 1)) B hX hbl hb0 rfl (by omega) hL dL_law_1630 ?_
  refine zv_callV (pc := 1631) (As := [.int (xs (i + 1))]) (rest := []) B (k_X7_play l E b _ _ _ _ (xs (i + 1)) (T := 4000 * j) (by omega) (by rw [hFw 112 (by omega)]; exact hL9) (by rw [hFw 114 (by omega), hFw 115 (by omega)]; exact hD) (by rw [hFw 111 (by omega)]; omega) hgw) (zcwV 1 9 B wm_L_213 wi_X7_play wv_X7_play wn_X7 wcode_X7_play rfl (by decide +kernel) ⟨(Nat.le_of_ble_eq_true rfl), (Nat.le_of_ble_eq_true rfl)⟩) rfl (zrecv B (zat (by decide) (z111 _ _ _)) cl7) zid rfl (Nat.le_of_ble_eq_true rfl) dL_law_1631 ⟨(show _ ≤ 603072 by omega), (show _ ≤ 7215210 by omega)⟩ (fun v9 u9 hv9 => ?_)
  obtain ⟨rfl, hF7, hg7, hx7⟩ := hv9
  refine zv_st (st' := [.int ((m_X7_play ((w_L_play c w ea (xs (i + 1))).2.1) ((w_L_play c w ea (xs (i + 1))).2.2) (xs (i + 1))).1)]) rfl ?_
  obtain ⟨h1, h2, h3⟩ := hP j c w en ea (xs (i + 1)) hI hj hFw hgw hF7 hg7 hx7
  refine zv_istore (pc := 1634) (L' := [(7, .int ((m_X7_play ((w_L_play c w ea (xs (i + 1))).2.1) ((w_L_play c w ea (xs (i + 1))).2.2) (xs (i + 1))).1)), (6, .int ((w_L_play c w ea (xs (i + 1))).1)), (0, .ref q0), (1, .ref (b + 0)), (2, .ref (b + 111)), (3, .ref (b + 124)), (4, .ref (b + 125)), (5, .int (nI i))]) B (by decide) rfl dL_law_1634 ?_
  refine zv_aload_n (pc := 1636) B 4 rfl dL_law_1636 ?_
  refine zv_callV (pc := 1637) (As := []) (rest := []) B (k_X7_thrown l E b _ _ _ _ ) (zcwV 0 0 B wm_L_123 wi_X7_thrown wv_X7_thrown wn_X7 wcode_X7_thrown rfl (by decide +kernel) ⟨(Nat.le_of_ble_eq_true rfl), (Nat.le_of_ble_eq_true rfl)⟩) rfl (zrecv B (zat (by decide) (z111 _ _ _)) cl7) zid rfl (Nat.le_of_ble_eq_true rfl) dL_law_1637 ⟨(show _ ≤ 603072 by omega), (show _ ≤ 7215210 by omega)⟩ (fun v9 u9 hv9 => ?_)
  subst hv9
  refine zv_st (st' := [.int (m_X7_thrown ((m_X7_play ((w_L_play c w ea (xs (i + 1))).2.1) ((w_L_play c w ea (xs (i + 1))).2.2) (xs (i + 1))).2.1))]) rfl ?_
  refine zv_iload (pc := 1640) B 1 rfl dL_law_1640 ?_
  refine zv_icmp_eq (pc := 1642) (tgt := 1647) B dL_law_1642 rfl (fun _ => ?_) (fun h9 => absurd h1 h9)
  refine zv_iload (pc := 1647) B 1 rfl dL_law_1647 ?_
  refine zv_if_ne (pc := 1649) (tgt := 1664) B dL_law_1649 rfl (fun hc => ?_) (fun hc => ?_)
  · refine zv_goto (pc := 1664) (tgt := 2100) B rfl dL_law_1664 ?_
    refine zv_widen (pc := 2100) (k' := k + 5) (n' := n + 28) (by omega) (by omega) ?_
    refine zv_loc (L' := [(0, .ref q0), (1, .ref (b + 0)), (2, .ref (b + 111)), (3, .ref (b + 124)), (4, .ref (b + 125)), (5, .int (nI i))]) [2, 3, 4, 5, 6, 7] rfl ?_
    exact next _ _ _ _ h3
  · refine zv_aload_n (pc := 1652) B 5 rfl dL_law_1652 ?_
    refine zv_iconst (pc := 1653) (v := 0) B rfl dL_law_1653 ?_
    refine zv_lald (pc := 1654) (jj := 0) B (zat (by decide) (z124 _ _ _)) rfl (by decide) (by decide) dL_law_1654 ?_
    refine zv_iload (pc := 1655) B 0 rfl dL_law_1655 ?_
    refine zv_i2l (pc := 1657) B dL_law_1657 ?_
    refine zv_lcmp (pc := 1658) B dL_law_1658 ?_
    refine zv_if_eq (pc := 1659) (tgt := 1664) B dL_law_1659 rfl (fun _ => ?_) (fun h9 => absurd ((lg_cmp_eq _ _).mpr (h2 hc)) h9)
    refine zv_goto (pc := 1664) (tgt := 2100) B rfl dL_law_1664 ?_
    refine zv_widen (pc := 2100) (k' := k + 5) (n' := n + 28) (by omega) (by omega) ?_
    refine zv_loc (L' := [(0, .ref q0), (1, .ref (b + 0)), (2, .ref (b + 111)), (3, .ref (b + 124)), (4, .ref (b + 125)), (5, .int (nI i))]) [2, 3, 4, 5, 6, 7] rfl ?_
    exact next _ _ _ _ h3
set_option maxRecDepth 100000 in
set_option maxHeartbeats 400000 in
theorem law_step {Inv : Nat → (Nat → Nat → Int32) → (Nat → Int64) → (Nat → Nat → Int32) → Prop} (hok : zInvOK Inv) (hP : zP_step Inv) {p : Program} {l : Launch} {e : Env} {s : State} {m : MethodId} {args : Array Value} {below : List Frame} {meth : Method} {c9 : Code} {Q : State → Prop} {b : Nat} {E : zE} (B : zC p s m args meth c9 cL_law 9 "ToneGraphLaw" E b) (hlf : l.stackTraces = false) {q0 L : Nat} {xs : Nat → Int32} (hX : va_X q0 L xs s s.heap) (hbl : q0 < s.heap.size) (hb0 : s.heap.size = b) {k n i j : Nat} (hk : k + 5 ≤ 603072) (hn : n + 28 ≤ 7215210) (hi : i + 5 ≤ L) (hL : L < 2 ^ 31) {c : Nat → Nat → Int32} {w : Nat → Int64} {en : Nat → Nat} {ea : Nat → Nat → Int32} (hI : Inv j c w ea) (hj : j < 512) (next : ∀ (c' : Nat → Nat → Int32) (w' : Nat → Int64) (en' : Nat → Nat) (ea' : Nat → Nat → Int32), Inv (j + 1) c' w' ea' → zV p l e room_1 s m args below meth c9 Q 9 b (zH E b c' w' en' ea') 2100 [(0, .ref q0), (1, .ref (b + 0)), (2, .ref (b + 111)), (3, .ref (b + 124)), (4, .ref (b + 125)), (5, .int (nI i))] [] (k + 5) (n + 28)) : zV p l e room_1 s m args below meth c9 Q 9 b (zH E b c w en ea) 1667 [(0, .ref q0), (1, .ref (b + 0)), (2, .ref (b + 111)), (3, .ref (b + 124)), (4, .ref (b + 125)), (5, .int (nI i))] [] k n := by
  obtain ⟨hg, hL9, hD, ht, hA, h0, hO, hS⟩ := hok j c w ea hI (by omega)
  refine zv_aload_n (pc := 1667) B 1 rfl dL_law_1667 ?_
  refine zv_callV (pc := 1668) (As := []) (rest := []) B (k_X6_step l E b _ _ _ _  hg) (zcwV 0 7 B wm_L_214 wi_X6_step wv_X6_step wn_X6 wcode_X6_step rfl (by decide +kernel) ⟨(Nat.le_of_ble_eq_true rfl), (Nat.le_of_ble_eq_true rfl)⟩) rfl (zrecv B (zat (by decide) (z0 _ _ _)) cl6) zid rfl (Nat.le_of_ble_eq_true rfl) dL_law_1668 ⟨(show _ ≤ 603072 by omega), (show _ ≤ 7215210 by omega)⟩ (fun v9 u9 hv9 => ?_)
  obtain ⟨rfl, hFw, hgw⟩ := hv9
  refine zv_st (st' := [.int ((m_X6_step c w ea).1)]) rfl ?_
  refine zv_aload_n (pc := 1671) B 2 rfl dL_law_1671 ?_
  refine zv_callV (pc := 1672) (As := []) (rest := [.int ((m_X6_step c w ea).1)]) B (k_X7_step l E b _ _ _ _ (T := 4000 * j) (by omega) (by rw [hFw 112 (by omega)]; exact hL9) (by rw [hFw 114 (by omega), hFw 115 (by omega)]; exact hD) (by rw [hFw 111 (by omega)]; omega) hgw) (zcwV 0 9 B wm_L_217 wi_X7_step wv_X7_step wn_X7 wcode_X7_step rfl (by decide +kernel) ⟨(Nat.le_of_ble_eq_true rfl), (Nat.le_of_ble_eq_true rfl)⟩) rfl (zrecv B (zat (by decide) (z111 _ _ _)) cl7) zid rfl (Nat.le_of_ble_eq_true rfl) dL_law_1672 ⟨(show _ ≤ 603072 by omega), (show _ ≤ 7215210 by omega)⟩ (fun v9 u9 hv9 => ?_)
  obtain ⟨rfl, hF7, hg7, hx7⟩ := hv9
  refine zv_st (st' := [.int ((m_X7_step ((m_X6_step c w ea).2.1) ((m_X6_step c w ea).2.2)).1), .int ((m_X6_step c w ea).1)]) rfl ?_
  obtain ⟨h1, h3⟩ := hP j c w en ea hI hj hFw hgw hF7 hg7 hx7
  refine zv_icmp_eq (pc := 1675) (tgt := 2100) B dL_law_1675 rfl (fun _ => ?_) (fun h9 => absurd h1 h9)
  refine zv_widen (pc := 2100) (k' := k + 5) (n' := n + 28) (by omega) (by omega) ?_
  exact next _ _ _ _ h3
set_option maxRecDepth 100000 in
set_option maxHeartbeats 400000 in
theorem law_ahead {Inv : Nat → (Nat → Nat → Int32) → (Nat → Int64) → (Nat → Nat → Int32) → Prop} (hok : zInvOK Inv) (hP : zP_ahead Inv) {p : Program} {l : Launch} {e : Env} {s : State} {m : MethodId} {args : Array Value} {below : List Frame} {meth : Method} {c9 : Code} {Q : State → Prop} {b : Nat} {E : zE} (B : zC p s m args meth c9 cL_law 9 "ToneGraphLaw" E b) (hlf : l.stackTraces = false) {q0 L : Nat} {xs : Nat → Int32} (hX : va_X q0 L xs s s.heap) (hbl : q0 < s.heap.size) (hb0 : s.heap.size = b) {k n i j : Nat} (hk : k + 5 ≤ 603072) (hn : n + 28 ≤ 7215210) (hi : i + 5 ≤ L) (hL : L < 2 ^ 31) {c : Nat → Nat → Int32} {w : Nat → Int64} {en : Nat → Nat} {ea : Nat → Nat → Int32} (hI : Inv j c w ea) (hj : j < 512) (next : ∀ (c' : Nat → Nat → Int32) (w' : Nat → Int64) (en' : Nat → Nat) (ea' : Nat → Nat → Int32), Inv (j + 1) c' w' ea' → zV p l e room_1 s m args below meth c9 Q 9 b (zH E b c' w' en' ea') 2100 [(0, .ref q0), (1, .ref (b + 0)), (2, .ref (b + 111)), (3, .ref (b + 124)), (4, .ref (b + 125)), (5, .int (nI i))] [] (k + 5) (n + 28)) : zV p l e room_1 s m args below meth c9 Q 9 b (zH E b c w en ea) 1680 [(0, .ref q0), (1, .ref (b + 0)), (2, .ref (b + 111)), (3, .ref (b + 124)), (4, .ref (b + 125)), (5, .int (nI i))] [] k n := by
  obtain ⟨hg, hL9, hD, ht, hA, h0, hO, hS⟩ := hok j c w ea hI (by omega)
  refine zv_aload_n (pc := 1680) B 1 rfl dL_law_1680 ?_
  refine zv_aload_n (pc := 1681) B 0 rfl dL_law_1681 ?_
  refine zv_iload (pc := 1682) B 5 rfl dL_law_1682 ?_
  refine zv_iconst (pc := 1684) (v := 1) B rfl dL_law_1684 ?_
  refine zv_iadd (pc := 1685) B dL_law_1685 ?_
  refine zv_topi (y := nI (i + 1)) (nI_add i 1) ?_
  refine zv_sld (pc := 1686) (jj := (i + 1)) B hX hbl hb0 rfl (by omega) hL dL_law_1686 ?_
  refine zv_aload_n (pc := 1687) B 3 rfl dL_law_1687 ?_
  refine zv_callSW (pc := 1688) (As := [.ref (b + 0), .int (xs (i + 1)), .ref (b + 124)]) (rest := []) B (k_L_ahead l E b c w en ea (xs (i + 1)) hg hlf) (zcwSW 3 8 B wm_L_218 ws_L_ahead wn_L wcode_L_ahead (by decide +kernel) ⟨(Nat.le_of_ble_eq_true rfl), (Nat.le_of_ble_eq_true rfl)⟩) rfl zid rfl (Nat.le_of_ble_eq_true rfl) dL_law_1688 ⟨(show _ ≤ 603072 by omega), (show _ ≤ 7215210 by omega)⟩ (fun v9 u9 hv9 => ?_)
  obtain ⟨rfl, hgw, hFw⟩ := hv9
  refine zv_st (st' := [.int ((w_L_ahead c w en ea (xs (i + 1))).1)]) rfl ?_
  refine zv_istore (pc := 1691) (L' := [(6, .int ((w_L_ahead c w en ea (xs (i + 1))).1)), (0, .ref q0), (1, .ref (b + 0)), (2, .ref (b + 111)), (3, .ref (b + 124)), (4, .ref (b + 125)), (5, .int (nI i))]) B (by decide) rfl dL_law_1691 ?_
  refine zv_aload_n (pc := 1693) B 3 rfl dL_law_1693 ?_
  refine zv_aload_n (pc := 1694) B 1 rfl dL_law_1694 ?_
  refine zv_iload (pc := 1695) B 6 rfl dL_law_1695 ?_
  refine zv_iconst (pc := 1697) (v := 1) B rfl dL_law_1697 ?_
  refine zv_iadd (pc := 1698) B dL_law_1698 ?_
  refine zv_topi (y := nI (i + 1)) (nI_add i 1) ?_
  refine zv_sld (pc := 1699) (jj := (i + 1)) B hX hbl hb0 rfl (by omega) hL dL_law_1699 ?_
  refine zv_callV (pc := 1700) (As := [.int (xs (i + 1))]) (rest := []) B (k_X7_ahead l E b _ _ _ _ (xs (i + 1)) (T := 4000 * j) (by omega) (by rw [hFw 112 (by omega)]; exact hL9) (by rw [hFw 114 (by omega), hFw 115 (by omega)]; exact hD) hgw) (zcwV 1 9 B wm_L_220 wi_X7_ahead wv_X7_ahead wn_X7 wcode_X7_ahead rfl (by decide +kernel) ⟨(Nat.le_of_ble_eq_true rfl), (Nat.le_of_ble_eq_true rfl)⟩) rfl (zrecv B (zat (by decide) (z111 _ _ _)) cl7) zid rfl (Nat.le_of_ble_eq_true rfl) dL_law_1700 ⟨(show _ ≤ 603072 by omega), (show _ ≤ 7215210 by omega)⟩ (fun v9 u9 hv9 => ?_)
  obtain ⟨rfl, hF7, hg7, hx7⟩ := hv9
  refine zv_st (st' := [.int ((m_X7_ahead ((w_L_ahead c w en ea (xs (i + 1))).2.1) (xs (i + 1))).1)]) rfl ?_
  obtain ⟨h1, h2, h3⟩ := hP j c w en ea (xs (i + 1)) hI hj hFw hgw hF7 hg7 hx7
  refine zv_istore (pc := 1703) (L' := [(7, .int ((m_X7_ahead ((w_L_ahead c w en ea (xs (i + 1))).2.1) (xs (i + 1))).1)), (6, .int ((w_L_ahead c w en ea (xs (i + 1))).1)), (0, .ref q0), (1, .ref (b + 0)), (2, .ref (b + 111)), (3, .ref (b + 124)), (4, .ref (b + 125)), (5, .int (nI i))]) B (by decide) rfl dL_law_1703 ?_
  refine zv_aload_n (pc := 1705) B 4 rfl dL_law_1705 ?_
  refine zv_callV (pc := 1706) (As := []) (rest := []) B (k_X7_thrown l E b _ _ _ _ ) (zcwV 0 0 B wm_L_123 wi_X7_thrown wv_X7_thrown wn_X7 wcode_X7_thrown rfl (by decide +kernel) ⟨(Nat.le_of_ble_eq_true rfl), (Nat.le_of_ble_eq_true rfl)⟩) rfl (zrecv B (zat (by decide) (z111 _ _ _)) cl7) zid rfl (Nat.le_of_ble_eq_true rfl) dL_law_1706 ⟨(show _ ≤ 603072 by omega), (show _ ≤ 7215210 by omega)⟩ (fun v9 u9 hv9 => ?_)
  subst hv9
  refine zv_st (st' := [.int (m_X7_thrown ((m_X7_ahead ((w_L_ahead c w en ea (xs (i + 1))).2.1) (xs (i + 1))).2))]) rfl ?_
  refine zv_iload (pc := 1709) B 1 rfl dL_law_1709 ?_
  refine zv_icmp_eq (pc := 1711) (tgt := 1716) B dL_law_1711 rfl (fun _ => ?_) (fun h9 => absurd h1 h9)
  refine zv_iload (pc := 1716) B 1 rfl dL_law_1716 ?_
  refine zv_if_ne (pc := 1718) (tgt := 1733) B dL_law_1718 rfl (fun hc => ?_) (fun hc => ?_)
  · refine zv_goto (pc := 1733) (tgt := 2100) B rfl dL_law_1733 ?_
    refine zv_widen (pc := 2100) (k' := k + 5) (n' := n + 28) (by omega) (by omega) ?_
    refine zv_loc (L' := [(0, .ref q0), (1, .ref (b + 0)), (2, .ref (b + 111)), (3, .ref (b + 124)), (4, .ref (b + 125)), (5, .int (nI i))]) [2, 3, 4, 5, 6, 7] rfl ?_
    exact next _ _ _ _ h3
  · refine zv_aload_n (pc := 1721) B 5 rfl dL_law_1721 ?_
    refine zv_iconst (pc := 1722) (v := 0) B rfl dL_law_1722 ?_
    refine zv_lald (pc := 1723) (jj := 0) B (zat (by decide) (z124 _ _ _)) rfl (by decide) (by decide) dL_law_1723 ?_
    refine zv_iload (pc := 1724) B 0 rfl dL_law_1724 ?_
    refine zv_i2l (pc := 1726) B dL_law_1726 ?_
    refine zv_lcmp (pc := 1727) B dL_law_1727 ?_
    refine zv_if_eq (pc := 1728) (tgt := 1733) B dL_law_1728 rfl (fun _ => ?_) (fun h9 => absurd ((lg_cmp_eq _ _).mpr (h2 hc)) h9)
    refine zv_goto (pc := 1733) (tgt := 2100) B rfl dL_law_1733 ?_
    refine zv_widen (pc := 2100) (k' := k + 5) (n' := n + 28) (by omega) (by omega) ?_
    refine zv_loc (L' := [(0, .ref q0), (1, .ref (b + 0)), (2, .ref (b + 111)), (3, .ref (b + 124)), (4, .ref (b + 125)), (5, .int (nI i))]) [2, 3, 4, 5, 6, 7] rfl ?_
    exact next _ _ _ _ h3
set_option maxRecDepth 100000 in
set_option maxHeartbeats 400000 in
theorem law_aheadByBlocks {Inv : Nat → (Nat → Nat → Int32) → (Nat → Int64) → (Nat → Nat → Int32) → Prop} (hok : zInvOK Inv) (hP : zP_aheadByBlocks Inv) {p : Program} {l : Launch} {e : Env} {s : State} {m : MethodId} {args : Array Value} {below : List Frame} {meth : Method} {c9 : Code} {Q : State → Prop} {b : Nat} {E : zE} (B : zC p s m args meth c9 cL_law 9 "ToneGraphLaw" E b) (hlf : l.stackTraces = false) {q0 L : Nat} {xs : Nat → Int32} (hX : va_X q0 L xs s s.heap) (hbl : q0 < s.heap.size) (hb0 : s.heap.size = b) {k n i j : Nat} (hk : k + 5 ≤ 603072) (hn : n + 28 ≤ 7215210) (hi : i + 5 ≤ L) (hL : L < 2 ^ 31) {c : Nat → Nat → Int32} {w : Nat → Int64} {en : Nat → Nat} {ea : Nat → Nat → Int32} (hI : Inv j c w ea) (hj : j < 512) (next : ∀ (c' : Nat → Nat → Int32) (w' : Nat → Int64) (en' : Nat → Nat) (ea' : Nat → Nat → Int32), Inv (j + 1) c' w' ea' → zV p l e room_1 s m args below meth c9 Q 9 b (zH E b c' w' en' ea') 2100 [(0, .ref q0), (1, .ref (b + 0)), (2, .ref (b + 111)), (3, .ref (b + 124)), (4, .ref (b + 125)), (5, .int (nI i))] [] (k + 5) (n + 28)) : zV p l e room_1 s m args below meth c9 Q 9 b (zH E b c w en ea) 1736 [(0, .ref q0), (1, .ref (b + 0)), (2, .ref (b + 111)), (3, .ref (b + 124)), (4, .ref (b + 125)), (5, .int (nI i))] [] k n := by
  obtain ⟨hg, hL9, hD, ht, hA, h0, hO, hS⟩ := hok j c w ea hI (by omega)
  refine zv_aload_n (pc := 1736) B 1 rfl dL_law_1736 ?_
  refine zv_aload_n (pc := 1737) B 0 rfl dL_law_1737 ?_
  refine zv_iload (pc := 1738) B 5 rfl dL_law_1738 ?_
  refine zv_iconst (pc := 1740) (v := 1) B rfl dL_law_1740 ?_
  refine zv_iadd (pc := 1741) B dL_law_1741 ?_
  refine zv_topi (y := nI (i + 1)) (nI_add i 1) ?_
  refine zv_sld (pc := 1742) (jj := (i + 1)) B hX hbl hb0 rfl (by omega) hL dL_law_1742 ?_
  refine zv_aload_n (pc := 1743) B 0 rfl dL_law_1743 ?_
  refine zv_iload (pc := 1744) B 5 rfl dL_law_1744 ?_
  refine zv_iconst (pc := 1746) (v := 2) B rfl dL_law_1746 ?_
  refine zv_iadd (pc := 1747) B dL_law_1747 ?_
  refine zv_topi (y := nI (i + 2)) (nI_add i 2) ?_
  refine zv_sld (pc := 1748) (jj := (i + 2)) B hX hbl hb0 rfl (by omega) hL dL_law_1748 ?_
  refine zv_aload_n (pc := 1749) B 3 rfl dL_law_1749 ?_
  refine zv_callSW (pc := 1750) (As := [.ref (b + 0), .int (xs (i + 1)), .int (xs (i + 2)), .ref (b + 124)]) (rest := []) B (k_L_aheadByBlocks l E b c w en ea (xs (i + 1)) (xs (i + 2)) hg hlf) (zcwSW 4 8 B wm_L_221 ws_L_aheadByBlocks wn_L wcode_L_aheadByBlocks (by decide +kernel) ⟨(Nat.le_of_ble_eq_true rfl), (Nat.le_of_ble_eq_true rfl)⟩) rfl zid rfl (Nat.le_of_ble_eq_true rfl) dL_law_1750 ⟨(show _ ≤ 603072 by omega), (show _ ≤ 7215210 by omega)⟩ (fun v9 u9 hv9 => ?_)
  obtain ⟨rfl, hgw, hFw⟩ := hv9
  refine zv_st (st' := [.int ((w_L_aheadByBlocks c w en ea (xs (i + 1)) (xs (i + 2))).1)]) rfl ?_
  refine zv_istore (pc := 1753) (L' := [(6, .int ((w_L_aheadByBlocks c w en ea (xs (i + 1)) (xs (i + 2))).1)), (0, .ref q0), (1, .ref (b + 0)), (2, .ref (b + 111)), (3, .ref (b + 124)), (4, .ref (b + 125)), (5, .int (nI i))]) B (by decide) rfl dL_law_1753 ?_
  refine zv_aload_n (pc := 1755) B 3 rfl dL_law_1755 ?_
  refine zv_aload_n (pc := 1756) B 1 rfl dL_law_1756 ?_
  refine zv_iload (pc := 1757) B 6 rfl dL_law_1757 ?_
  refine zv_iconst (pc := 1759) (v := 1) B rfl dL_law_1759 ?_
  refine zv_iadd (pc := 1760) B dL_law_1760 ?_
  refine zv_topi (y := nI (i + 1)) (nI_add i 1) ?_
  refine zv_sld (pc := 1761) (jj := (i + 1)) B hX hbl hb0 rfl (by omega) hL dL_law_1761 ?_
  refine zv_aload_n (pc := 1762) B 1 rfl dL_law_1762 ?_
  refine zv_iload (pc := 1763) B 6 rfl dL_law_1763 ?_
  refine zv_iconst (pc := 1765) (v := 2) B rfl dL_law_1765 ?_
  refine zv_iadd (pc := 1766) B dL_law_1766 ?_
  refine zv_topi (y := nI (i + 2)) (nI_add i 2) ?_
  refine zv_sld (pc := 1767) (jj := (i + 2)) B hX hbl hb0 rfl (by omega) hL dL_law_1767 ?_
  refine zv_callV (pc := 1768) (As := [.int (xs (i + 1)), .int (xs (i + 2))]) (rest := []) B (k_X7_aheadByBlocks l E b _ _ _ _ (xs (i + 1)) (xs (i + 2)) (T := 4000 * j) (by omega) (by rw [hFw 112 (by omega)]; exact hL9) (by rw [hFw 114 (by omega), hFw 115 (by omega)]; exact hD) hgw) (zcwV 2 9 B wm_L_223 wi_X7_aheadByBlocks wv_X7_aheadByBlocks wn_X7 wcode_X7_aheadByBlocks rfl (by decide +kernel) ⟨(Nat.le_of_ble_eq_true rfl), (Nat.le_of_ble_eq_true rfl)⟩) rfl (zrecv B (zat (by decide) (z111 _ _ _)) cl7) zid rfl (Nat.le_of_ble_eq_true rfl) dL_law_1768 ⟨(show _ ≤ 603072 by omega), (show _ ≤ 7215210 by omega)⟩ (fun v9 u9 hv9 => ?_)
  obtain ⟨rfl, hF7, hg7, hx7⟩ := hv9
  refine zv_st (st' := [.int ((m_X7_aheadByBlocks ((w_L_aheadByBlocks c w en ea (xs (i + 1)) (xs (i + 2))).2.1) (xs (i + 1)) (xs (i + 2))).1)]) rfl ?_
  obtain ⟨h1, h2, h3⟩ := hP j c w en ea (xs (i + 1)) (xs (i + 2)) hI hj hFw hgw hF7 hg7 hx7
  refine zv_istore (pc := 1771) (L' := [(7, .int ((m_X7_aheadByBlocks ((w_L_aheadByBlocks c w en ea (xs (i + 1)) (xs (i + 2))).2.1) (xs (i + 1)) (xs (i + 2))).1)), (6, .int ((w_L_aheadByBlocks c w en ea (xs (i + 1)) (xs (i + 2))).1)), (0, .ref q0), (1, .ref (b + 0)), (2, .ref (b + 111)), (3, .ref (b + 124)), (4, .ref (b + 125)), (5, .int (nI i))]) B (by decide) rfl dL_law_1771 ?_
  refine zv_aload_n (pc := 1773) B 4 rfl dL_law_1773 ?_
  refine zv_callV (pc := 1774) (As := []) (rest := []) B (k_X7_thrown l E b _ _ _ _ ) (zcwV 0 0 B wm_L_123 wi_X7_thrown wv_X7_thrown wn_X7 wcode_X7_thrown rfl (by decide +kernel) ⟨(Nat.le_of_ble_eq_true rfl), (Nat.le_of_ble_eq_true rfl)⟩) rfl (zrecv B (zat (by decide) (z111 _ _ _)) cl7) zid rfl (Nat.le_of_ble_eq_true rfl) dL_law_1774 ⟨(show _ ≤ 603072 by omega), (show _ ≤ 7215210 by omega)⟩ (fun v9 u9 hv9 => ?_)
  subst hv9
  refine zv_st (st' := [.int (m_X7_thrown ((m_X7_aheadByBlocks ((w_L_aheadByBlocks c w en ea (xs (i + 1)) (xs (i + 2))).2.1) (xs (i + 1)) (xs (i + 2))).2))]) rfl ?_
  refine zv_iload (pc := 1777) B 1 rfl dL_law_1777 ?_
  refine zv_icmp_eq (pc := 1779) (tgt := 1784) B dL_law_1779 rfl (fun _ => ?_) (fun h9 => absurd h1 h9)
  refine zv_iload (pc := 1784) B 1 rfl dL_law_1784 ?_
  refine zv_if_ne (pc := 1786) (tgt := 1801) B dL_law_1786 rfl (fun hc => ?_) (fun hc => ?_)
  · refine zv_goto (pc := 1801) (tgt := 2100) B rfl dL_law_1801 ?_
    refine zv_widen (pc := 2100) (k' := k + 5) (n' := n + 28) (by omega) (by omega) ?_
    refine zv_loc (L' := [(0, .ref q0), (1, .ref (b + 0)), (2, .ref (b + 111)), (3, .ref (b + 124)), (4, .ref (b + 125)), (5, .int (nI i))]) [2, 3, 4, 5, 6, 7] rfl ?_
    exact next _ _ _ _ h3
  · refine zv_aload_n (pc := 1789) B 5 rfl dL_law_1789 ?_
    refine zv_iconst (pc := 1790) (v := 0) B rfl dL_law_1790 ?_
    refine zv_lald (pc := 1791) (jj := 0) B (zat (by decide) (z124 _ _ _)) rfl (by decide) (by decide) dL_law_1791 ?_
    refine zv_iload (pc := 1792) B 0 rfl dL_law_1792 ?_
    refine zv_i2l (pc := 1794) B dL_law_1794 ?_
    refine zv_lcmp (pc := 1795) B dL_law_1795 ?_
    refine zv_if_eq (pc := 1796) (tgt := 1801) B dL_law_1796 rfl (fun _ => ?_) (fun h9 => absurd ((lg_cmp_eq _ _).mpr (h2 hc)) h9)
    refine zv_goto (pc := 1801) (tgt := 2100) B rfl dL_law_1801 ?_
    refine zv_widen (pc := 2100) (k' := k + 5) (n' := n + 28) (by omega) (by omega) ?_
    refine zv_loc (L' := [(0, .ref q0), (1, .ref (b + 0)), (2, .ref (b + 111)), (3, .ref (b + 124)), (4, .ref (b + 125)), (5, .int (nI i))]) [2, 3, 4, 5, 6, 7] rfl ?_
    exact next _ _ _ _ h3
set_option maxRecDepth 100000 in
set_option maxHeartbeats 400000 in
theorem law_heard {Inv : Nat → (Nat → Nat → Int32) → (Nat → Int64) → (Nat → Nat → Int32) → Prop} (hok : zInvOK Inv) (hP : zP_heard Inv) {p : Program} {l : Launch} {e : Env} {s : State} {m : MethodId} {args : Array Value} {below : List Frame} {meth : Method} {c9 : Code} {Q : State → Prop} {b : Nat} {E : zE} (B : zC p s m args meth c9 cL_law 9 "ToneGraphLaw" E b) (hlf : l.stackTraces = false) {q0 L : Nat} {xs : Nat → Int32} (hX : va_X q0 L xs s s.heap) (hbl : q0 < s.heap.size) (hb0 : s.heap.size = b) {k n i j : Nat} (hk : k + 5 ≤ 603072) (hn : n + 28 ≤ 7215210) (hi : i + 5 ≤ L) (hL : L < 2 ^ 31) {c : Nat → Nat → Int32} {w : Nat → Int64} {en : Nat → Nat} {ea : Nat → Nat → Int32} (hI : Inv j c w ea) (hj : j < 512) (next : ∀ (c' : Nat → Nat → Int32) (w' : Nat → Int64) (en' : Nat → Nat) (ea' : Nat → Nat → Int32), Inv (j + 1) c' w' ea' → zV p l e room_1 s m args below meth c9 Q 9 b (zH E b c' w' en' ea') 2100 [(0, .ref q0), (1, .ref (b + 0)), (2, .ref (b + 111)), (3, .ref (b + 124)), (4, .ref (b + 125)), (5, .int (nI i))] [] (k + 5) (n + 28)) : zV p l e room_1 s m args below meth c9 Q 9 b (zH E b c w en ea) 1804 [(0, .ref q0), (1, .ref (b + 0)), (2, .ref (b + 111)), (3, .ref (b + 124)), (4, .ref (b + 125)), (5, .int (nI i))] [] k n := by
  obtain ⟨hg, hL9, hD, ht, hA, h0, hO, hS⟩ := hok j c w ea hI (by omega)
  refine zv_aload_n (pc := 1804) B 1 rfl dL_law_1804 ?_
  refine zv_aload_n (pc := 1805) B 0 rfl dL_law_1805 ?_
  refine zv_iload (pc := 1806) B 5 rfl dL_law_1806 ?_
  refine zv_iconst (pc := 1808) (v := 1) B rfl dL_law_1808 ?_
  refine zv_iadd (pc := 1809) B dL_law_1809 ?_
  refine zv_topi (y := nI (i + 1)) (nI_add i 1) ?_
  refine zv_sld (pc := 1810) (jj := (i + 1)) B hX hbl hb0 rfl (by omega) hL dL_law_1810 ?_
  refine zv_aload_n (pc := 1811) B 3 rfl dL_law_1811 ?_
  refine zv_callSW (pc := 1812) (As := [.ref (b + 0), .int (xs (i + 1)), .ref (b + 124)]) (rest := []) B (k_L_heard l E b c w en ea (xs (i + 1)) hg hlf) (zcwSW 3 8 B wm_L_224 ws_L_heard wn_L wcode_L_heard (by decide +kernel) ⟨(Nat.le_of_ble_eq_true rfl), (Nat.le_of_ble_eq_true rfl)⟩) rfl zid rfl (Nat.le_of_ble_eq_true rfl) dL_law_1812 ⟨(show _ ≤ 603072 by omega), (show _ ≤ 7215210 by omega)⟩ (fun v9 u9 hv9 => ?_)
  obtain ⟨rfl, hgw, hFw⟩ := hv9
  refine zv_st (st' := [.int ((w_L_heard c w (xs (i + 1))).1)]) rfl ?_
  refine zv_istore (pc := 1815) (L' := [(6, .int ((w_L_heard c w (xs (i + 1))).1)), (0, .ref q0), (1, .ref (b + 0)), (2, .ref (b + 111)), (3, .ref (b + 124)), (4, .ref (b + 125)), (5, .int (nI i))]) B (by decide) rfl dL_law_1815 ?_
  refine zv_aload_n (pc := 1817) B 3 rfl dL_law_1817 ?_
  refine zv_aload_n (pc := 1818) B 1 rfl dL_law_1818 ?_
  refine zv_iload (pc := 1819) B 6 rfl dL_law_1819 ?_
  refine zv_iconst (pc := 1821) (v := 1) B rfl dL_law_1821 ?_
  refine zv_iadd (pc := 1822) B dL_law_1822 ?_
  refine zv_topi (y := nI (i + 1)) (nI_add i 1) ?_
  refine zv_sld (pc := 1823) (jj := (i + 1)) B hX hbl hb0 rfl (by omega) hL dL_law_1823 ?_
  refine zv_callV (pc := 1824) (As := [.int (xs (i + 1))]) (rest := []) B (k_X7_heard l E b _ _ _ _ (xs (i + 1)) (by rw [hFw 111 (by omega)]; omega) hgw) (zcwV 1 1 B wm_L_226 wi_X7_heard wv_X7_heard wn_X7 wcode_X7_heard rfl (by decide +kernel) ⟨(Nat.le_of_ble_eq_true rfl), (Nat.le_of_ble_eq_true rfl)⟩) rfl (zrecv B (zat (by decide) (z111 _ _ _)) cl7) zid rfl (Nat.le_of_ble_eq_true rfl) dL_law_1824 ⟨(show _ ≤ 603072 by omega), (show _ ≤ 7215210 by omega)⟩ (fun v9 u9 hv9 => ?_)
  obtain ⟨rfl, hF7, hg7⟩ := hv9
  refine zv_st (st' := [.int ((m_X7_heard ((w_L_heard c w (xs (i + 1))).2.1) (xs (i + 1))).1)]) rfl ?_
  obtain ⟨h1, h2, h3⟩ := hP j c w en ea (xs (i + 1)) hI hj hFw hgw hF7 hg7
  refine zv_istore (pc := 1827) (L' := [(7, .int ((m_X7_heard ((w_L_heard c w (xs (i + 1))).2.1) (xs (i + 1))).1)), (6, .int ((w_L_heard c w (xs (i + 1))).1)), (0, .ref q0), (1, .ref (b + 0)), (2, .ref (b + 111)), (3, .ref (b + 124)), (4, .ref (b + 125)), (5, .int (nI i))]) B (by decide) rfl dL_law_1827 ?_
  refine zv_aload_n (pc := 1829) B 4 rfl dL_law_1829 ?_
  refine zv_callV (pc := 1830) (As := []) (rest := []) B (k_X7_thrown l E b _ _ _ _ ) (zcwV 0 0 B wm_L_123 wi_X7_thrown wv_X7_thrown wn_X7 wcode_X7_thrown rfl (by decide +kernel) ⟨(Nat.le_of_ble_eq_true rfl), (Nat.le_of_ble_eq_true rfl)⟩) rfl (zrecv B (zat (by decide) (z111 _ _ _)) cl7) zid rfl (Nat.le_of_ble_eq_true rfl) dL_law_1830 ⟨(show _ ≤ 603072 by omega), (show _ ≤ 7215210 by omega)⟩ (fun v9 u9 hv9 => ?_)
  subst hv9
  refine zv_st (st' := [.int (m_X7_thrown ((m_X7_heard ((w_L_heard c w (xs (i + 1))).2.1) (xs (i + 1))).2))]) rfl ?_
  refine zv_iload (pc := 1833) B 1 rfl dL_law_1833 ?_
  refine zv_icmp_eq (pc := 1835) (tgt := 1840) B dL_law_1835 rfl (fun _ => ?_) (fun h9 => absurd h1 h9)
  refine zv_iload (pc := 1840) B 1 rfl dL_law_1840 ?_
  refine zv_if_ne (pc := 1842) (tgt := 1857) B dL_law_1842 rfl (fun hc => ?_) (fun hc => ?_)
  · refine zv_goto (pc := 1857) (tgt := 2100) B rfl dL_law_1857 ?_
    refine zv_widen (pc := 2100) (k' := k + 5) (n' := n + 28) (by omega) (by omega) ?_
    refine zv_loc (L' := [(0, .ref q0), (1, .ref (b + 0)), (2, .ref (b + 111)), (3, .ref (b + 124)), (4, .ref (b + 125)), (5, .int (nI i))]) [2, 3, 4, 5, 6, 7] rfl ?_
    exact next _ _ _ _ h3
  · refine zv_aload_n (pc := 1845) B 5 rfl dL_law_1845 ?_
    refine zv_iconst (pc := 1846) (v := 0) B rfl dL_law_1846 ?_
    refine zv_lald (pc := 1847) (jj := 0) B (zat (by decide) (z124 _ _ _)) rfl (by decide) (by decide) dL_law_1847 ?_
    refine zv_iload (pc := 1848) B 0 rfl dL_law_1848 ?_
    refine zv_i2l (pc := 1850) B dL_law_1850 ?_
    refine zv_lcmp (pc := 1851) B dL_law_1851 ?_
    refine zv_if_eq (pc := 1852) (tgt := 1857) B dL_law_1852 rfl (fun _ => ?_) (fun h9 => absurd ((lg_cmp_eq _ _).mpr (h2 hc)) h9)
    refine zv_goto (pc := 1857) (tgt := 2100) B rfl dL_law_1857 ?_
    refine zv_widen (pc := 2100) (k' := k + 5) (n' := n + 28) (by omega) (by omega) ?_
    refine zv_loc (L' := [(0, .ref q0), (1, .ref (b + 0)), (2, .ref (b + 111)), (3, .ref (b + 124)), (4, .ref (b + 125)), (5, .int (nI i))]) [2, 3, 4, 5, 6, 7] rfl ?_
    exact next _ _ _ _ h3
set_option maxRecDepth 100000 in
set_option maxHeartbeats 400000 in
theorem law_outputOf {Inv : Nat → (Nat → Nat → Int32) → (Nat → Int64) → (Nat → Nat → Int32) → Prop} (hok : zInvOK Inv) (hP : zP_outputOf Inv) {p : Program} {l : Launch} {e : Env} {s : State} {m : MethodId} {args : Array Value} {below : List Frame} {meth : Method} {c9 : Code} {Q : State → Prop} {b : Nat} {E : zE} (B : zC p s m args meth c9 cL_law 9 "ToneGraphLaw" E b) (hlf : l.stackTraces = false) {q0 L : Nat} {xs : Nat → Int32} (hX : va_X q0 L xs s s.heap) (hbl : q0 < s.heap.size) (hb0 : s.heap.size = b) {k n i j : Nat} (hk : k + 5 ≤ 603072) (hn : n + 28 ≤ 7215210) (hi : i + 5 ≤ L) (hL : L < 2 ^ 31) {c : Nat → Nat → Int32} {w : Nat → Int64} {en : Nat → Nat} {ea : Nat → Nat → Int32} (hI : Inv j c w ea) (hj : j < 512) (next : ∀ (c' : Nat → Nat → Int32) (w' : Nat → Int64) (en' : Nat → Nat) (ea' : Nat → Nat → Int32), Inv (j + 1) c' w' ea' → zV p l e room_1 s m args below meth c9 Q 9 b (zH E b c' w' en' ea') 2100 [(0, .ref q0), (1, .ref (b + 0)), (2, .ref (b + 111)), (3, .ref (b + 124)), (4, .ref (b + 125)), (5, .int (nI i))] [] (k + 5) (n + 28)) : zV p l e room_1 s m args below meth c9 Q 9 b (zH E b c w en ea) 1860 [(0, .ref q0), (1, .ref (b + 0)), (2, .ref (b + 111)), (3, .ref (b + 124)), (4, .ref (b + 125)), (5, .int (nI i))] [] k n := by
  obtain ⟨hg, hL9, hD, ht, hA, h0, hO, hS⟩ := hok j c w ea hI (by omega)
  refine zv_aload_n (pc := 1860) B 1 rfl dL_law_1860 ?_
  refine zv_aload_n (pc := 1861) B 0 rfl dL_law_1861 ?_
  refine zv_iload (pc := 1862) B 5 rfl dL_law_1862 ?_
  refine zv_iconst (pc := 1864) (v := 1) B rfl dL_law_1864 ?_
  refine zv_iadd (pc := 1865) B dL_law_1865 ?_
  refine zv_topi (y := nI (i + 1)) (nI_add i 1) ?_
  refine zv_sld (pc := 1866) (jj := (i + 1)) B hX hbl hb0 rfl (by omega) hL dL_law_1866 ?_
  refine zv_aload_n (pc := 1867) B 3 rfl dL_law_1867 ?_
  refine zv_callSW (pc := 1868) (As := [.ref (b + 0), .int (xs (i + 1)), .ref (b + 124)]) (rest := []) B (k_L_outputOf l E b c w en ea (xs (i + 1)) hg hlf) (zcwSW 3 8 B wm_L_227 ws_L_outputOf wn_L wcode_L_outputOf (by decide +kernel) ⟨(Nat.le_of_ble_eq_true rfl), (Nat.le_of_ble_eq_true rfl)⟩) rfl zid rfl (Nat.le_of_ble_eq_true rfl) dL_law_1868 ⟨(show _ ≤ 603072 by omega), (show _ ≤ 7215210 by omega)⟩ (fun v9 u9 hv9 => ?_)
  obtain ⟨rfl, hgw, hFw⟩ := hv9
  refine zv_st (st' := [.int ((w_L_outputOf c w (xs (i + 1))).1)]) rfl ?_
  refine zv_istore (pc := 1871) (L' := [(6, .int ((w_L_outputOf c w (xs (i + 1))).1)), (0, .ref q0), (1, .ref (b + 0)), (2, .ref (b + 111)), (3, .ref (b + 124)), (4, .ref (b + 125)), (5, .int (nI i))]) B (by decide) rfl dL_law_1871 ?_
  refine zv_aload_n (pc := 1873) B 3 rfl dL_law_1873 ?_
  refine zv_aload_n (pc := 1874) B 1 rfl dL_law_1874 ?_
  refine zv_iload (pc := 1875) B 6 rfl dL_law_1875 ?_
  refine zv_iconst (pc := 1877) (v := 1) B rfl dL_law_1877 ?_
  refine zv_iadd (pc := 1878) B dL_law_1878 ?_
  refine zv_topi (y := nI (i + 1)) (nI_add i 1) ?_
  refine zv_sld (pc := 1879) (jj := (i + 1)) B hX hbl hb0 rfl (by omega) hL dL_law_1879 ?_
  refine zv_callV (pc := 1880) (As := [.int (xs (i + 1))]) (rest := []) B (k_X7_outputOf l E b _ _ _ _ (xs (i + 1)) hgw) (zcwV 1 2 B wm_L_229 wi_X7_outputOf wv_X7_outputOf wn_X7 wcode_X7_outputOf rfl (by decide +kernel) ⟨(Nat.le_of_ble_eq_true rfl), (Nat.le_of_ble_eq_true rfl)⟩) rfl (zrecv B (zat (by decide) (z111 _ _ _)) cl7) zid rfl (Nat.le_of_ble_eq_true rfl) dL_law_1880 ⟨(show _ ≤ 603072 by omega), (show _ ≤ 7215210 by omega)⟩ (fun v9 u9 hv9 => ?_)
  obtain ⟨rfl, hF7, hg7⟩ := hv9
  refine zv_st (st' := [.int ((m_X7_outputOf ((w_L_outputOf c w (xs (i + 1))).2.1) (xs (i + 1))).1)]) rfl ?_
  obtain ⟨h1, h2, h3⟩ := hP j c w en ea (xs (i + 1)) hI hj hFw hgw hF7 hg7
  refine zv_istore (pc := 1883) (L' := [(7, .int ((m_X7_outputOf ((w_L_outputOf c w (xs (i + 1))).2.1) (xs (i + 1))).1)), (6, .int ((w_L_outputOf c w (xs (i + 1))).1)), (0, .ref q0), (1, .ref (b + 0)), (2, .ref (b + 111)), (3, .ref (b + 124)), (4, .ref (b + 125)), (5, .int (nI i))]) B (by decide) rfl dL_law_1883 ?_
  refine zv_aload_n (pc := 1885) B 4 rfl dL_law_1885 ?_
  refine zv_callV (pc := 1886) (As := []) (rest := []) B (k_X7_thrown l E b _ _ _ _ ) (zcwV 0 0 B wm_L_123 wi_X7_thrown wv_X7_thrown wn_X7 wcode_X7_thrown rfl (by decide +kernel) ⟨(Nat.le_of_ble_eq_true rfl), (Nat.le_of_ble_eq_true rfl)⟩) rfl (zrecv B (zat (by decide) (z111 _ _ _)) cl7) zid rfl (Nat.le_of_ble_eq_true rfl) dL_law_1886 ⟨(show _ ≤ 603072 by omega), (show _ ≤ 7215210 by omega)⟩ (fun v9 u9 hv9 => ?_)
  subst hv9
  refine zv_st (st' := [.int (m_X7_thrown ((m_X7_outputOf ((w_L_outputOf c w (xs (i + 1))).2.1) (xs (i + 1))).2))]) rfl ?_
  refine zv_iload (pc := 1889) B 1 rfl dL_law_1889 ?_
  refine zv_icmp_eq (pc := 1891) (tgt := 1896) B dL_law_1891 rfl (fun _ => ?_) (fun h9 => absurd h1 h9)
  refine zv_iload (pc := 1896) B 1 rfl dL_law_1896 ?_
  refine zv_if_ne (pc := 1898) (tgt := 1913) B dL_law_1898 rfl (fun hc => ?_) (fun hc => ?_)
  · refine zv_goto (pc := 1913) (tgt := 2100) B rfl dL_law_1913 ?_
    refine zv_widen (pc := 2100) (k' := k + 5) (n' := n + 28) (by omega) (by omega) ?_
    refine zv_loc (L' := [(0, .ref q0), (1, .ref (b + 0)), (2, .ref (b + 111)), (3, .ref (b + 124)), (4, .ref (b + 125)), (5, .int (nI i))]) [2, 3, 4, 5, 6, 7] rfl ?_
    exact next _ _ _ _ h3
  · refine zv_aload_n (pc := 1901) B 5 rfl dL_law_1901 ?_
    refine zv_iconst (pc := 1902) (v := 0) B rfl dL_law_1902 ?_
    refine zv_lald (pc := 1903) (jj := 0) B (zat (by decide) (z124 _ _ _)) rfl (by decide) (by decide) dL_law_1903 ?_
    refine zv_iload (pc := 1904) B 0 rfl dL_law_1904 ?_
    refine zv_i2l (pc := 1906) B dL_law_1906 ?_
    refine zv_lcmp (pc := 1907) B dL_law_1907 ?_
    refine zv_if_eq (pc := 1908) (tgt := 1913) B dL_law_1908 rfl (fun _ => ?_) (fun h9 => absurd ((lg_cmp_eq _ _).mpr (h2 hc)) h9)
    refine zv_goto (pc := 1913) (tgt := 2100) B rfl dL_law_1913 ?_
    refine zv_widen (pc := 2100) (k' := k + 5) (n' := n + 28) (by omega) (by omega) ?_
    refine zv_loc (L' := [(0, .ref q0), (1, .ref (b + 0)), (2, .ref (b + 111)), (3, .ref (b + 124)), (4, .ref (b + 125)), (5, .int (nI i))]) [2, 3, 4, 5, 6, 7] rfl ?_
    exact next _ _ _ _ h3
set_option maxRecDepth 100000 in
set_option maxHeartbeats 400000 in
theorem law_time {Inv : Nat → (Nat → Nat → Int32) → (Nat → Int64) → (Nat → Nat → Int32) → Prop} (hok : zInvOK Inv) (hP : zP_time Inv) {p : Program} {l : Launch} {e : Env} {s : State} {m : MethodId} {args : Array Value} {below : List Frame} {meth : Method} {c9 : Code} {Q : State → Prop} {b : Nat} {E : zE} (B : zC p s m args meth c9 cL_law 9 "ToneGraphLaw" E b) (hlf : l.stackTraces = false) {q0 L : Nat} {xs : Nat → Int32} (hX : va_X q0 L xs s s.heap) (hbl : q0 < s.heap.size) (hb0 : s.heap.size = b) {k n i j : Nat} (hk : k + 5 ≤ 603072) (hn : n + 28 ≤ 7215210) (hi : i + 5 ≤ L) (hL : L < 2 ^ 31) {c : Nat → Nat → Int32} {w : Nat → Int64} {en : Nat → Nat} {ea : Nat → Nat → Int32} (hI : Inv j c w ea) (hj : j < 512) (next : ∀ (c' : Nat → Nat → Int32) (w' : Nat → Int64) (en' : Nat → Nat) (ea' : Nat → Nat → Int32), Inv (j + 1) c' w' ea' → zV p l e room_1 s m args below meth c9 Q 9 b (zH E b c' w' en' ea') 2100 [(0, .ref q0), (1, .ref (b + 0)), (2, .ref (b + 111)), (3, .ref (b + 124)), (4, .ref (b + 125)), (5, .int (nI i))] [] (k + 5) (n + 28)) : zV p l e room_1 s m args below meth c9 Q 9 b (zH E b c w en ea) 1916 [(0, .ref q0), (1, .ref (b + 0)), (2, .ref (b + 111)), (3, .ref (b + 124)), (4, .ref (b + 125)), (5, .int (nI i))] [] k n := by
  obtain ⟨hg, hL9, hD, ht, hA, h0, hO, hS⟩ := hok j c w ea hI (by omega)
  refine zv_aload_n (pc := 1916) B 1 rfl dL_law_1916 ?_
  refine zv_callV (pc := 1917) (As := []) (rest := []) B (k_X6_time l E b _ _ _ _  hg) (zcwV 0 7 B wm_L_230 wi_X6_time wv_X6_time wn_X6 wcode_X6_time rfl (by decide +kernel) ⟨(Nat.le_of_ble_eq_true rfl), (Nat.le_of_ble_eq_true rfl)⟩) rfl (zrecv B (zat (by decide) (z0 _ _ _)) cl6) zid rfl (Nat.le_of_ble_eq_true rfl) dL_law_1917 ⟨(show _ ≤ 603072 by omega), (show _ ≤ 7215210 by omega)⟩ (fun v9 u9 hv9 => ?_)
  subst hv9
  refine zv_st (st' := [.int (m_X6_time c)]) rfl ?_
  refine zv_aload_n (pc := 1920) B 2 rfl dL_law_1920 ?_
  refine zv_callV (pc := 1921) (As := []) (rest := [.int (m_X6_time c)]) B (k_X7_time l E b _ _ _ _ hg) (zcwV 0 1 B wm_L_233 wi_X7_time wv_X7_time wn_X7 wcode_X7_time rfl (by decide +kernel) ⟨(Nat.le_of_ble_eq_true rfl), (Nat.le_of_ble_eq_true rfl)⟩) rfl (zrecv B (zat (by decide) (z111 _ _ _)) cl7) zid rfl (Nat.le_of_ble_eq_true rfl) dL_law_1921 ⟨(show _ ≤ 603072 by omega), (show _ ≤ 7215210 by omega)⟩ (fun v9 u9 hv9 => ?_)
  obtain ⟨rfl, hF7, hg7⟩ := hv9
  refine zv_st (st' := [.int ((m_X7_time c).1), .int (m_X6_time c)]) rfl ?_
  obtain ⟨h1, h3⟩ := hP j c w en ea hI hj hF7 hg7
  refine zv_icmp_eq (pc := 1924) (tgt := 2100) B dL_law_1924 rfl (fun _ => ?_) (fun h9 => absurd h1 h9)
  refine zv_widen (pc := 2100) (k' := k + 5) (n' := n + 28) (by omega) (by omega) ?_
  exact next _ _ _ _ h3
set_option maxRecDepth 100000 in
set_option maxHeartbeats 400000 in
theorem law_greatest {Inv : Nat → (Nat → Nat → Int32) → (Nat → Int64) → (Nat → Nat → Int32) → Prop} (hok : zInvOK Inv) (hP : zP_greatest Inv) {p : Program} {l : Launch} {e : Env} {s : State} {m : MethodId} {args : Array Value} {below : List Frame} {meth : Method} {c9 : Code} {Q : State → Prop} {b : Nat} {E : zE} (B : zC p s m args meth c9 cL_law 9 "ToneGraphLaw" E b) (hlf : l.stackTraces = false) {q0 L : Nat} {xs : Nat → Int32} (hX : va_X q0 L xs s s.heap) (hbl : q0 < s.heap.size) (hb0 : s.heap.size = b) {k n i j : Nat} (hk : k + 5 ≤ 603072) (hn : n + 28 ≤ 7215210) (hi : i + 5 ≤ L) (hL : L < 2 ^ 31) {c : Nat → Nat → Int32} {w : Nat → Int64} {en : Nat → Nat} {ea : Nat → Nat → Int32} (hI : Inv j c w ea) (hj : j < 512) (next : ∀ (c' : Nat → Nat → Int32) (w' : Nat → Int64) (en' : Nat → Nat) (ea' : Nat → Nat → Int32), Inv (j + 1) c' w' ea' → zV p l e room_1 s m args below meth c9 Q 9 b (zH E b c' w' en' ea') 2100 [(0, .ref q0), (1, .ref (b + 0)), (2, .ref (b + 111)), (3, .ref (b + 124)), (4, .ref (b + 125)), (5, .int (nI i))] [] (k + 5) (n + 28)) : zV p l e room_1 s m args below meth c9 Q 9 b (zH E b c w en ea) 1929 [(0, .ref q0), (1, .ref (b + 0)), (2, .ref (b + 111)), (3, .ref (b + 124)), (4, .ref (b + 125)), (5, .int (nI i))] [] k n := by
  obtain ⟨hg, hL9, hD, ht, hA, h0, hO, hS⟩ := hok j c w ea hI (by omega)
  refine zv_aload_n (pc := 1929) B 1 rfl dL_law_1929 ?_
  refine zv_callV (pc := 1930) (As := []) (rest := []) B (k_X6_greatest l E b _ _ _ _  hg) (zcwV 0 7 B wm_L_234 wi_X6_greatest wv_X6_greatest wn_X6 wcode_X6_greatest rfl (by decide +kernel) ⟨(Nat.le_of_ble_eq_true rfl), (Nat.le_of_ble_eq_true rfl)⟩) rfl (zrecv B (zat (by decide) (z0 _ _ _)) cl6) zid rfl (Nat.le_of_ble_eq_true rfl) dL_law_1930 ⟨(show _ ≤ 603072 by omega), (show _ ≤ 7215210 by omega)⟩ (fun v9 u9 hv9 => ?_)
  subst hv9
  refine zv_st (st' := [.int (m_X6_greatest c)]) rfl ?_
  refine zv_aload_n (pc := 1933) B 2 rfl dL_law_1933 ?_
  refine zv_callV (pc := 1934) (As := []) (rest := [.int (m_X6_greatest c)]) B (k_X7_greatest l E b _ _ _ _ hg) (zcwV 0 1 B wm_L_237 wi_X7_greatest wv_X7_greatest wn_X7 wcode_X7_greatest rfl (by decide +kernel) ⟨(Nat.le_of_ble_eq_true rfl), (Nat.le_of_ble_eq_true rfl)⟩) rfl (zrecv B (zat (by decide) (z111 _ _ _)) cl7) zid rfl (Nat.le_of_ble_eq_true rfl) dL_law_1934 ⟨(show _ ≤ 603072 by omega), (show _ ≤ 7215210 by omega)⟩ (fun v9 u9 hv9 => ?_)
  obtain ⟨rfl, hF7, hg7⟩ := hv9
  refine zv_st (st' := [.int ((m_X7_greatest c).1), .int (m_X6_greatest c)]) rfl ?_
  obtain ⟨h1, h3⟩ := hP j c w en ea hI hj hF7 hg7
  refine zv_icmp_eq (pc := 1937) (tgt := 2100) B dL_law_1937 rfl (fun _ => ?_) (fun h9 => absurd h1 h9)
  refine zv_widen (pc := 2100) (k' := k + 5) (n' := n + 28) (by omega) (by omega) ?_
  exact next _ _ _ _ h3
set_option maxRecDepth 100000 in
set_option maxHeartbeats 400000 in
theorem law_energy {Inv : Nat → (Nat → Nat → Int32) → (Nat → Int64) → (Nat → Nat → Int32) → Prop} (hok : zInvOK Inv) (hP : zP_energy Inv) {p : Program} {l : Launch} {e : Env} {s : State} {m : MethodId} {args : Array Value} {below : List Frame} {meth : Method} {c9 : Code} {Q : State → Prop} {b : Nat} {E : zE} (B : zC p s m args meth c9 cL_law 9 "ToneGraphLaw" E b) (hlf : l.stackTraces = false) {q0 L : Nat} {xs : Nat → Int32} (hX : va_X q0 L xs s s.heap) (hbl : q0 < s.heap.size) (hb0 : s.heap.size = b) {k n i j : Nat} (hk : k + 5 ≤ 603072) (hn : n + 28 ≤ 7215210) (hi : i + 5 ≤ L) (hL : L < 2 ^ 31) {c : Nat → Nat → Int32} {w : Nat → Int64} {en : Nat → Nat} {ea : Nat → Nat → Int32} (hI : Inv j c w ea) (hj : j < 512) (next : ∀ (c' : Nat → Nat → Int32) (w' : Nat → Int64) (en' : Nat → Nat) (ea' : Nat → Nat → Int32), Inv (j + 1) c' w' ea' → zV p l e room_1 s m args below meth c9 Q 9 b (zH E b c' w' en' ea') 2100 [(0, .ref q0), (1, .ref (b + 0)), (2, .ref (b + 111)), (3, .ref (b + 124)), (4, .ref (b + 125)), (5, .int (nI i))] [] (k + 5) (n + 28)) : zV p l e room_1 s m args below meth c9 Q 9 b (zH E b c w en ea) 1942 [(0, .ref q0), (1, .ref (b + 0)), (2, .ref (b + 111)), (3, .ref (b + 124)), (4, .ref (b + 125)), (5, .int (nI i))] [] k n := by
  obtain ⟨hg, hL9, hD, ht, hA, h0, hO, hS⟩ := hok j c w ea hI (by omega)
  refine zv_aload_n (pc := 1942) B 1 rfl dL_law_1942 ?_
  refine zv_callV (pc := 1943) (As := []) (rest := []) B (k_X6_energy l E b _ _ _ _ ) (zcwV 0 7 B wm_L_238 wi_X6_energy wv_X6_energy wn_X6 wcode_X6_energy rfl (by decide +kernel) ⟨(Nat.le_of_ble_eq_true rfl), (Nat.le_of_ble_eq_true rfl)⟩) rfl (zrecv B (zat (by decide) (z0 _ _ _)) cl6) zid rfl (Nat.le_of_ble_eq_true rfl) dL_law_1943 ⟨(show _ ≤ 603072 by omega), (show _ ≤ 7215210 by omega)⟩ (fun v9 u9 hv9 => ?_)
  subst hv9
  refine zv_st (st' := [.long (m_X6_energy w)]) rfl ?_
  refine zv_aload_n (pc := 1946) B 2 rfl dL_law_1946 ?_
  refine zv_callV (pc := 1947) (As := []) (rest := [.long (m_X6_energy w)]) B (k_X7_energy l E b _ _ _ _ hg) (zcwV 0 0 B wm_L_242 wi_X7_energy wv_X7_energy wn_X7 wcode_X7_energy rfl (by decide +kernel) ⟨(Nat.le_of_ble_eq_true rfl), (Nat.le_of_ble_eq_true rfl)⟩) rfl (zrecv B (zat (by decide) (z111 _ _ _)) cl7) zid rfl (Nat.le_of_ble_eq_true rfl) dL_law_1947 ⟨(show _ ≤ 603072 by omega), (show _ ≤ 7215210 by omega)⟩ (fun v9 u9 hv9 => ?_)
  obtain ⟨rfl, hF7, hg7⟩ := hv9
  refine zv_st (st' := [.long ((m_X7_energy c w).1), .long (m_X6_energy w)]) rfl ?_
  obtain ⟨h1, h3⟩ := hP j c w en ea hI hj hF7 hg7
  refine zv_lcmp (pc := 1950) B dL_law_1950 ?_
  refine zv_if_eq (pc := 1951) (tgt := 2100) B dL_law_1951 rfl (fun _ => ?_) (fun h9 => absurd ((lg_cmp_eq _ _).mpr h1) h9)
  refine zv_widen (pc := 2100) (k' := k + 5) (n' := n + 28) (by omega) (by omega) ?_
  exact next _ _ _ _ h3
set_option maxRecDepth 100000 in
set_option maxHeartbeats 400000 in
theorem law_meanEnergy {Inv : Nat → (Nat → Nat → Int32) → (Nat → Int64) → (Nat → Nat → Int32) → Prop} (hok : zInvOK Inv) (hP : zP_meanEnergy Inv) {p : Program} {l : Launch} {e : Env} {s : State} {m : MethodId} {args : Array Value} {below : List Frame} {meth : Method} {c9 : Code} {Q : State → Prop} {b : Nat} {E : zE} (B : zC p s m args meth c9 cL_law 9 "ToneGraphLaw" E b) (hlf : l.stackTraces = false) {q0 L : Nat} {xs : Nat → Int32} (hX : va_X q0 L xs s s.heap) (hbl : q0 < s.heap.size) (hb0 : s.heap.size = b) {k n i j : Nat} (hk : k + 5 ≤ 603072) (hn : n + 28 ≤ 7215210) (hi : i + 5 ≤ L) (hL : L < 2 ^ 31) {c : Nat → Nat → Int32} {w : Nat → Int64} {en : Nat → Nat} {ea : Nat → Nat → Int32} (hI : Inv j c w ea) (hj : j < 512) (next : ∀ (c' : Nat → Nat → Int32) (w' : Nat → Int64) (en' : Nat → Nat) (ea' : Nat → Nat → Int32), Inv (j + 1) c' w' ea' → zV p l e room_1 s m args below meth c9 Q 9 b (zH E b c' w' en' ea') 2100 [(0, .ref q0), (1, .ref (b + 0)), (2, .ref (b + 111)), (3, .ref (b + 124)), (4, .ref (b + 125)), (5, .int (nI i))] [] (k + 5) (n + 28)) : zV p l e room_1 s m args below meth c9 Q 9 b (zH E b c w en ea) 1956 [(0, .ref q0), (1, .ref (b + 0)), (2, .ref (b + 111)), (3, .ref (b + 124)), (4, .ref (b + 125)), (5, .int (nI i))] [] k n := by
  obtain ⟨hg, hL9, hD, ht, hA, h0, hO, hS⟩ := hok j c w ea hI (by omega)
  refine zv_aload_n (pc := 1956) B 1 rfl dL_law_1956 ?_
  refine zv_aload (pc := 1957) B 4 rfl dL_law_1957 ?_
  refine zv_callSW (pc := 1959) (As := [.ref (b + 0), .ref (b + 125)]) (rest := []) B (k_L_meanEnergy l E b c w en ea hg hlf) (zcwSW 2 8 B wm_L_243 ws_L_meanEnergy wn_L wcode_L_meanEnergy (by decide +kernel) ⟨(Nat.le_of_ble_eq_true rfl), (Nat.le_of_ble_eq_true rfl)⟩) rfl zid rfl (Nat.le_of_ble_eq_true rfl) dL_law_1959 ⟨(show _ ≤ 603072 by omega), (show _ ≤ 7215210 by omega)⟩ (fun v9 u9 hv9 => ?_)
  subst hv9
  refine zv_st (st' := [.int ((w_L_meanEnergy c w).1)]) rfl ?_
  refine zv_istore (pc := 1962) (L' := [(6, .int ((w_L_meanEnergy c w).1)), (0, .ref q0), (1, .ref (b + 0)), (2, .ref (b + 111)), (3, .ref (b + 124)), (4, .ref (b + 125)), (5, .int (nI i))]) B (by decide) rfl dL_law_1962 ?_
  refine zv_aload_n (pc := 1964) B 3 rfl dL_law_1964 ?_
  refine zv_callV (pc := 1965) (As := []) (rest := []) B (k_X7_meanEnergy l E b _ _ _ _ hg) (zcwV 0 1 B wm_L_246 wi_X7_meanEnergy wv_X7_meanEnergy wn_X7 wcode_X7_meanEnergy rfl (by decide +kernel) ⟨(Nat.le_of_ble_eq_true rfl), (Nat.le_of_ble_eq_true rfl)⟩) rfl (zrecv B (zat (by decide) (z111 _ _ _)) cl7) zid rfl (Nat.le_of_ble_eq_true rfl) dL_law_1965 ⟨(show _ ≤ 603072 by omega), (show _ ≤ 7215210 by omega)⟩ (fun v9 u9 hv9 => ?_)
  obtain ⟨rfl, hF7, hg7⟩ := hv9
  refine zv_st (st' := [.double ((m_X7_meanEnergy c ((w_L_meanEnergy c w).2)).1)]) rfl ?_
  obtain ⟨h1, h2, h3⟩ := hP j c w en ea hI hj hF7 hg7
  refine zv_dstore (pc := 1968) (L' := [(7, .double ((m_X7_meanEnergy c ((w_L_meanEnergy c w).2)).1)), (6, .int ((w_L_meanEnergy c w).1)), (0, .ref q0), (1, .ref (b + 0)), (2, .ref (b + 111)), (3, .ref (b + 124)), (4, .ref (b + 125)), (5, .int (nI i))]) B (by decide) rfl dL_law_1968 ?_
  refine zv_aload_n (pc := 1970) B 4 rfl dL_law_1970 ?_
  refine zv_callV (pc := 1971) (As := []) (rest := []) B (k_X7_thrown l E b _ _ _ _ ) (zcwV 0 0 B wm_L_123 wi_X7_thrown wv_X7_thrown wn_X7 wcode_X7_thrown rfl (by decide +kernel) ⟨(Nat.le_of_ble_eq_true rfl), (Nat.le_of_ble_eq_true rfl)⟩) rfl (zrecv B (zat (by decide) (z111 _ _ _)) cl7) zid rfl (Nat.le_of_ble_eq_true rfl) dL_law_1971 ⟨(show _ ≤ 603072 by omega), (show _ ≤ 7215210 by omega)⟩ (fun v9 u9 hv9 => ?_)
  subst hv9
  refine zv_st (st' := [.int (m_X7_thrown ((m_X7_meanEnergy c ((w_L_meanEnergy c w).2)).2))]) rfl ?_
  refine zv_iload (pc := 1974) B 1 rfl dL_law_1974 ?_
  refine zv_icmp_eq (pc := 1976) (tgt := 1981) B dL_law_1976 rfl (fun _ => ?_) (fun h9 => absurd h1 h9)
  refine zv_iload (pc := 1981) B 1 rfl dL_law_1981 ?_
  refine zv_if_ne (pc := 1983) (tgt := 2018) B dL_law_1983 rfl (fun hc => ?_) (fun hc => ?_)
  · refine zv_goto (pc := 2018) (tgt := 2100) B rfl dL_law_2018 ?_
    refine zv_widen (pc := 2100) (k' := k + 5) (n' := n + 28) (by omega) (by omega) ?_
    refine zv_loc (L' := [(0, .ref q0), (1, .ref (b + 0)), (2, .ref (b + 111)), (3, .ref (b + 124)), (4, .ref (b + 125)), (5, .int (nI i))]) [2, 3, 4, 5, 6, 7] rfl ?_
    exact next _ _ _ _ h3
  · refine zv_aload (pc := 1986) B 6 rfl dL_law_1986 ?_
    refine zv_iconst (pc := 1988) (v := 0) B rfl dL_law_1988 ?_
    refine zv_dald (pc := 1989) (jj := 0) B (zat (by decide) (z125 _ _ _)) rfl (by decide) (by decide) dL_law_1989 ?_
    refine zv_dload (pc := 1990) B 0 rfl dL_law_1990 ?_
    refine zv_dcmp (pc := 1992) B dL_law_1992 ?_
    refine zv_if_eq (pc := 1993) (tgt := 2018) B dL_law_1993 rfl (fun _ => ?_) (fun h9 => absurd (h2 hc) h9)
    refine zv_goto (pc := 2018) (tgt := 2100) B rfl dL_law_2018 ?_
    refine zv_widen (pc := 2100) (k' := k + 5) (n' := n + 28) (by omega) (by omega) ?_
    refine zv_loc (L' := [(0, .ref q0), (1, .ref (b + 0)), (2, .ref (b + 111)), (3, .ref (b + 124)), (4, .ref (b + 125)), (5, .int (nI i))]) [2, 3, 4, 5, 6, 7] rfl ?_
    exact next _ _ _ _ h3
set_option maxRecDepth 100000 in
set_option maxHeartbeats 400000 in
theorem law_quietShare {Inv : Nat → (Nat → Nat → Int32) → (Nat → Int64) → (Nat → Nat → Int32) → Prop} (hok : zInvOK Inv) (hP : zP_quietShare Inv) {p : Program} {l : Launch} {e : Env} {s : State} {m : MethodId} {args : Array Value} {below : List Frame} {meth : Method} {c9 : Code} {Q : State → Prop} {b : Nat} {E : zE} (B : zC p s m args meth c9 cL_law 9 "ToneGraphLaw" E b) (hlf : l.stackTraces = false) {q0 L : Nat} {xs : Nat → Int32} (hX : va_X q0 L xs s s.heap) (hbl : q0 < s.heap.size) (hb0 : s.heap.size = b) {k n i j : Nat} (hk : k + 5 ≤ 603072) (hn : n + 28 ≤ 7215210) (hi : i + 5 ≤ L) (hL : L < 2 ^ 31) {c : Nat → Nat → Int32} {w : Nat → Int64} {en : Nat → Nat} {ea : Nat → Nat → Int32} (hI : Inv j c w ea) (hj : j < 512) (next : ∀ (c' : Nat → Nat → Int32) (w' : Nat → Int64) (en' : Nat → Nat) (ea' : Nat → Nat → Int32), Inv (j + 1) c' w' ea' → zV p l e room_1 s m args below meth c9 Q 9 b (zH E b c' w' en' ea') 2100 [(0, .ref q0), (1, .ref (b + 0)), (2, .ref (b + 111)), (3, .ref (b + 124)), (4, .ref (b + 125)), (5, .int (nI i))] [] (k + 5) (n + 28)) : zV p l e room_1 s m args below meth c9 Q 9 b (zH E b c w en ea) 2021 [(0, .ref q0), (1, .ref (b + 0)), (2, .ref (b + 111)), (3, .ref (b + 124)), (4, .ref (b + 125)), (5, .int (nI i))] [] k n := by
  obtain ⟨hg, hL9, hD, ht, hA, h0, hO, hS⟩ := hok j c w ea hI (by omega)
  refine zv_aload_n (pc := 2021) B 1 rfl dL_law_2021 ?_
  refine zv_aload (pc := 2022) B 4 rfl dL_law_2022 ?_
  refine zv_callSW (pc := 2024) (As := [.ref (b + 0), .ref (b + 125)]) (rest := []) B (k_L_quietShare l E b c w en ea hg hlf) (zcwSW 2 8 B wm_L_247 ws_L_quietShare wn_L wcode_L_quietShare (by decide +kernel) ⟨(Nat.le_of_ble_eq_true rfl), (Nat.le_of_ble_eq_true rfl)⟩) rfl zid rfl (Nat.le_of_ble_eq_true rfl) dL_law_2024 ⟨(show _ ≤ 603072 by omega), (show _ ≤ 7215210 by omega)⟩ (fun v9 u9 hv9 => ?_)
  subst hv9
  refine zv_st (st' := [.int ((w_L_quietShare c w).1)]) rfl ?_
  refine zv_istore (pc := 2027) (L' := [(6, .int ((w_L_quietShare c w).1)), (0, .ref q0), (1, .ref (b + 0)), (2, .ref (b + 111)), (3, .ref (b + 124)), (4, .ref (b + 125)), (5, .int (nI i))]) B (by decide) rfl dL_law_2027 ?_
  refine zv_aload_n (pc := 2029) B 3 rfl dL_law_2029 ?_
  refine zv_callV (pc := 2030) (As := []) (rest := []) B (k_X7_quietShare l E b _ _ _ _ hg) (zcwV 0 1 B wm_L_249 wi_X7_quietShare wv_X7_quietShare wn_X7 wcode_X7_quietShare rfl (by decide +kernel) ⟨(Nat.le_of_ble_eq_true rfl), (Nat.le_of_ble_eq_true rfl)⟩) rfl (zrecv B (zat (by decide) (z111 _ _ _)) cl7) zid rfl (Nat.le_of_ble_eq_true rfl) dL_law_2030 ⟨(show _ ≤ 603072 by omega), (show _ ≤ 7215210 by omega)⟩ (fun v9 u9 hv9 => ?_)
  obtain ⟨rfl, hF7, hg7⟩ := hv9
  refine zv_st (st' := [.float ((m_X7_quietShare c).1)]) rfl ?_
  obtain ⟨h1, h2, h3⟩ := hP j c w en ea hI hj hF7 hg7
  refine zv_fstore (pc := 2033) (L' := [(7, .float ((m_X7_quietShare c).1)), (6, .int ((w_L_quietShare c w).1)), (0, .ref q0), (1, .ref (b + 0)), (2, .ref (b + 111)), (3, .ref (b + 124)), (4, .ref (b + 125)), (5, .int (nI i))]) B (by decide) rfl dL_law_2033 ?_
  refine zv_aload_n (pc := 2035) B 4 rfl dL_law_2035 ?_
  refine zv_callV (pc := 2036) (As := []) (rest := []) B (k_X7_thrown l E b _ _ _ _ ) (zcwV 0 0 B wm_L_123 wi_X7_thrown wv_X7_thrown wn_X7 wcode_X7_thrown rfl (by decide +kernel) ⟨(Nat.le_of_ble_eq_true rfl), (Nat.le_of_ble_eq_true rfl)⟩) rfl (zrecv B (zat (by decide) (z111 _ _ _)) cl7) zid rfl (Nat.le_of_ble_eq_true rfl) dL_law_2036 ⟨(show _ ≤ 603072 by omega), (show _ ≤ 7215210 by omega)⟩ (fun v9 u9 hv9 => ?_)
  subst hv9
  refine zv_st (st' := [.int (m_X7_thrown ((m_X7_quietShare c).2))]) rfl ?_
  refine zv_iload (pc := 2039) B 1 rfl dL_law_2039 ?_
  refine zv_icmp_eq (pc := 2041) (tgt := 2046) B dL_law_2041 rfl (fun _ => ?_) (fun h9 => absurd h1 h9)
  refine zv_iload (pc := 2046) B 1 rfl dL_law_2046 ?_
  refine zv_if_ne (pc := 2048) (tgt := 2084) B dL_law_2048 rfl (fun hc => ?_) (fun hc => ?_)
  · refine zv_goto (pc := 2084) (tgt := 2100) B rfl dL_law_2084 ?_
    refine zv_widen (pc := 2100) (k' := k + 5) (n' := n + 28) (by omega) (by omega) ?_
    refine zv_loc (L' := [(0, .ref q0), (1, .ref (b + 0)), (2, .ref (b + 111)), (3, .ref (b + 124)), (4, .ref (b + 125)), (5, .int (nI i))]) [2, 3, 4, 5, 6, 7] rfl ?_
    exact next _ _ _ _ h3
  · refine zv_aload (pc := 2051) B 6 rfl dL_law_2051 ?_
    refine zv_iconst (pc := 2053) (v := 0) B rfl dL_law_2053 ?_
    refine zv_dald (pc := 2054) (jj := 0) B (zat (by decide) (z125 _ _ _)) rfl (by decide) (by decide) dL_law_2054 ?_
    refine zv_fload (pc := 2055) B 0 rfl dL_law_2055 ?_
    refine zv_f2d (pc := 2057) B (zfp_fd (qs7_n _)) dL_law_2057 ?_
    refine zv_dcmp (pc := 2058) B dL_law_2058 ?_
    refine zv_if_eq (pc := 2059) (tgt := 2084) B dL_law_2059 rfl (fun _ => ?_) (fun h9 => absurd (h2 hc) h9)
    refine zv_goto (pc := 2084) (tgt := 2100) B rfl dL_law_2084 ?_
    refine zv_widen (pc := 2100) (k' := k + 5) (n' := n + 28) (by omega) (by omega) ?_
    refine zv_loc (L' := [(0, .ref q0), (1, .ref (b + 0)), (2, .ref (b + 111)), (3, .ref (b + 124)), (4, .ref (b + 125)), (5, .int (nI i))]) [2, 3, 4, 5, 6, 7] rfl ?_
    exact next _ _ _ _ h3
set_option maxRecDepth 100000 in
set_option maxHeartbeats 400000 in
theorem law_isConsistent {Inv : Nat → (Nat → Nat → Int32) → (Nat → Int64) → (Nat → Nat → Int32) → Prop} (hok : zInvOK Inv) (hP : zP_isConsistent Inv) {p : Program} {l : Launch} {e : Env} {s : State} {m : MethodId} {args : Array Value} {below : List Frame} {meth : Method} {c9 : Code} {Q : State → Prop} {b : Nat} {E : zE} (B : zC p s m args meth c9 cL_law 9 "ToneGraphLaw" E b) (hlf : l.stackTraces = false) {q0 L : Nat} {xs : Nat → Int32} (hX : va_X q0 L xs s s.heap) (hbl : q0 < s.heap.size) (hb0 : s.heap.size = b) {k n i j : Nat} (hk : k + 5 ≤ 603072) (hn : n + 28 ≤ 7215210) (hi : i + 5 ≤ L) (hL : L < 2 ^ 31) {c : Nat → Nat → Int32} {w : Nat → Int64} {en : Nat → Nat} {ea : Nat → Nat → Int32} (hI : Inv j c w ea) (hj : j < 512) (next : ∀ (c' : Nat → Nat → Int32) (w' : Nat → Int64) (en' : Nat → Nat) (ea' : Nat → Nat → Int32), Inv (j + 1) c' w' ea' → zV p l e room_1 s m args below meth c9 Q 9 b (zH E b c' w' en' ea') 2100 [(0, .ref q0), (1, .ref (b + 0)), (2, .ref (b + 111)), (3, .ref (b + 124)), (4, .ref (b + 125)), (5, .int (nI i))] [] (k + 5) (n + 28)) : zV p l e room_1 s m args below meth c9 Q 9 b (zH E b c w en ea) 2087 [(0, .ref q0), (1, .ref (b + 0)), (2, .ref (b + 111)), (3, .ref (b + 124)), (4, .ref (b + 125)), (5, .int (nI i))] [] k n := by
  obtain ⟨hg, hL9, hD, ht, hA, h0, hO, hS⟩ := hok j c w ea hI (by omega)
  refine zv_aload_n (pc := 2087) B 1 rfl dL_law_2087 ?_
  obtain ⟨z, hz⟩ : ∃ z : Nat, z = 20 := ⟨20, rfl⟩
  refine zv_callV (pc := 2088) (As := []) (rest := []) B (k_X6_isConsistent l E b c w en ea hz hg) (zcwV 0 7 B wm_L_250 wi_X6_isConsistent wv_X6_isConsistent wn_X6 wcode_X6_isConsistent rfl (by decide +kernel) ⟨(Nat.le_of_ble_eq_true rfl), (Nat.le_of_ble_eq_true rfl)⟩) rfl (zrecv B (zat (by decide) (z0 _ _ _)) cl6) zid rfl (Nat.le_of_ble_eq_true rfl) dL_law_2088 ⟨(show _ ≤ 603072 by omega), (show _ ≤ 7215210 by omega)⟩ (fun v9 u9 hv9 => ?_)
  obtain ⟨rfl, hFw, hgw⟩ := hv9
  refine zv_st (st' := [.int ((m_X6_isConsistent c en ea z).1)]) rfl ?_
  refine zv_aload_n (pc := 2091) B 2 rfl dL_law_2091 ?_
  refine zv_callV (pc := 2092) (As := []) (rest := [.int ((m_X6_isConsistent c en ea z).1)]) B (k_X7_isConsistent l E b _ _ _ _ (T := 4000 * j) (by omega) (by rw [hFw 112 (by omega)]; exact hL9) (by rw [hFw 111 (by omega), hFw 121 (by omega)]; exact hO) (by rw [hFw 111 (by omega), hFw 118 (by omega), hFw 120 (by omega)]; exact hS) hgw) (zcwV 0 4 B wm_L_254 wi_X7_isConsistent wv_X7_isConsistent wn_X7 wcode_X7_isConsistent rfl (by decide +kernel) ⟨(Nat.le_of_ble_eq_true rfl), (Nat.le_of_ble_eq_true rfl)⟩) rfl (zrecv B (zat (by decide) (z111 _ _ _)) cl7) zid rfl (Nat.le_of_ble_eq_true rfl) dL_law_2092 ⟨(show _ ≤ 603072 by omega), (show _ ≤ 7215210 by omega)⟩ (fun v9 u9 hv9 => ?_)
  obtain ⟨rfl, hF7, hg7⟩ := hv9
  refine zv_st (st' := [.int ((m_X7_isConsistent ((m_X6_isConsistent c en ea z).2.1)).1), .int ((m_X6_isConsistent c en ea z).1)]) rfl ?_
  obtain ⟨h1, h3⟩ := hP j c w en ea z hz hI hj hFw hgw hF7 hg7
  refine zv_icmp_eq (pc := 2095) (tgt := 2100) B dL_law_2095 rfl (fun _ => ?_) (fun h9 => absurd h1 h9)
  refine zv_widen (pc := 2100) (k' := k + 5) (n' := n + 28) (by omega) (by omega) ?_
  exact next _ _ _ _ h3