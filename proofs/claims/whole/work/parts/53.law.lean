set_option maxRecDepth 100000 in
set_option maxHeartbeats 400000 in
theorem law_addGain {Inv : Nat → (Nat → Nat → Int32) → (Nat → Int64) → (Nat → Nat → Int32) → Prop} (hok : zInvOK Inv) (hP : zP_addGain Inv) {p : Program} {l : Launch} {e : Env} {s : State} {m : MethodId} {args : Array Value} {below : List Frame} {meth : Method} {c9 : Code} {Q : State → Prop} {b : Nat} {E : zE} (B : zC p s m args meth c9 cL_law 9 "ToneGraphLaw" E b) (hlf : l.stackTraces = false) {q0 L : Nat} {xs : Nat → Int32} (hX : va_X q0 L xs s s.heap) (hbl : q0 < s.heap.size) (hb0 : s.heap.size = b) {k n i j : Nat} (hk : k + 5 ≤ 603072) (hn : n + 28 ≤ 7215210) (hi : i + 5 ≤ L) (hL : L < 2 ^ 31) {c : Nat → Nat → Int32} {w : Nat → Int64} {en : Nat → Nat} {ea : Nat → Nat → Int32} (hI : Inv j c w ea) (hj : j < 512) (next : ∀ (c' : Nat → Nat → Int32) (w' : Nat → Int64) (en' : Nat → Nat) (ea' : Nat → Nat → Int32), Inv (j + 1) c' w' ea' → zV p l e room_1 s m args below meth c9 Q 9 b (zH E b c' w' en' ea') 2100 [(0, .ref q0), (1, .ref (b + 0)), (2, .ref (b + 111)), (3, .ref (b + 124)), (4, .ref (b + 125)), (5, .int (nI i))] [] (k + 5) (n + 28)) : zV p l e room_1 s m args below meth c9 Q 9 b (zH E b c w en ea) 212 [(0, .ref q0), (1, .ref (b + 0)), (2, .ref (b + 111)), (3, .ref (b + 124)), (4, .ref (b + 125)), (5, .int (nI i))] [] k n := by
  obtain ⟨hg, hL9, hD, ht, hA, h0, hO, hS⟩ := hok j c w ea hI (by omega)
  refine zv_aload_n (pc := 212) B 1 rfl dL_law_212 ?_
  refine zv_aload_n (pc := 213) B 0 rfl dL_law_213 ?_
  refine zv_iload (pc := 214) B 5 rfl dL_law_214 ?_
  refine zv_iconst (pc := 216) (v := 1) B rfl dL_law_216 ?_
  refine zv_iadd (pc := 217) B dL_law_217 ?_
  refine zv_topi (y := nI (i + 1)) (nI_add i 1) ?_
  refine zv_sld (pc := 218) (jj := (i + 1)) B hX hbl hb0 rfl (by omega) hL dL_law_218 ?_
  refine zv_aload_n (pc := 219) B 3 rfl dL_law_219 ?_
  refine zv_callSW (pc := 220) (As := [.ref (b + 0), .int (xs (i + 1)), .ref (b + 124)]) (rest := []) B (k_L_addGain l E b c w en ea (xs (i + 1)) hg hlf) (zcwSW 3 8 B wm_L_117 ws_L_addGain wn_L wcode_L_addGain (by decide +kernel) ⟨(Nat.le_of_ble_eq_true rfl), (Nat.le_of_ble_eq_true rfl)⟩) rfl zid rfl (Nat.le_of_ble_eq_true rfl) dL_law_220 ⟨(show _ ≤ 603072 by omega), (show _ ≤ 7215210 by omega)⟩ (fun v9 u9 hv9 => ?_)
  obtain ⟨rfl, hgw, hFw⟩ := hv9
  refine zv_st (st' := [.int ((w_L_addGain c w (xs (i + 1))).1)]) rfl ?_
  refine zv_istore (pc := 223) (L' := [(6, .int ((w_L_addGain c w (xs (i + 1))).1)), (0, .ref q0), (1, .ref (b + 0)), (2, .ref (b + 111)), (3, .ref (b + 124)), (4, .ref (b + 125)), (5, .int (nI i))]) B (by decide) rfl dL_law_223 ?_
  refine zv_aload_n (pc := 225) B 3 rfl dL_law_225 ?_
  refine zv_aload_n (pc := 226) B 1 rfl dL_law_226 ?_
  refine zv_iload (pc := 227) B 6 rfl dL_law_227 ?_
  refine zv_iconst (pc := 229) (v := 1) B rfl dL_law_229 ?_
  refine zv_iadd (pc := 230) B dL_law_230 ?_
  refine zv_topi (y := nI (i + 1)) (nI_add i 1) ?_
  refine zv_sld (pc := 231) (jj := (i + 1)) B hX hbl hb0 rfl (by omega) hL dL_law_231 ?_
  refine zv_callV (pc := 232) (As := [.int (xs (i + 1))]) (rest := []) B (k_X7_addGain l E b _ _ _ _ (xs (i + 1)) (by rw [hFw 111 (by omega)]; exact hA.congr (hFw 114 (by omega)) (hFw 118 (by omega)) (hFw 120 (by omega))) (by rw [hFw 111 (by omega), hFw 120 (by omega)]; exact h0) hgw) (zcwV 1 3 B wm_L_122 wi_X7_addGain wv_X7_addGain wn_X7 wcode_X7_addGain rfl (by decide +kernel) ⟨(Nat.le_of_ble_eq_true rfl), (Nat.le_of_ble_eq_true rfl)⟩) rfl (zrecv B (zat (by decide) (z111 _ _ _)) cl7) zid rfl (Nat.le_of_ble_eq_true rfl) dL_law_232 ⟨(show _ ≤ 603072 by omega), (show _ ≤ 7215210 by omega)⟩ (fun v9 u9 hv9 => ?_)
  obtain ⟨rfl, hF7, hg7⟩ := hv9
  refine zv_st (st' := [.int ((m_X7_addGain ((w_L_addGain c w (xs (i + 1))).2.1) (xs (i + 1))).1)]) rfl ?_
  obtain ⟨h1, h2, h3⟩ := hP j c w en ea (xs (i + 1)) hI hj hFw hgw hF7 hg7
  refine zv_istore (pc := 235) (L' := [(7, .int ((m_X7_addGain ((w_L_addGain c w (xs (i + 1))).2.1) (xs (i + 1))).1)), (6, .int ((w_L_addGain c w (xs (i + 1))).1)), (0, .ref q0), (1, .ref (b + 0)), (2, .ref (b + 111)), (3, .ref (b + 124)), (4, .ref (b + 125)), (5, .int (nI i))]) B (by decide) rfl dL_law_235 ?_
  refine zv_aload_n (pc := 237) B 4 rfl dL_law_237 ?_
  refine zv_callV (pc := 238) (As := []) (rest := []) B (k_X7_thrown l E b _ _ _ _ ) (zcwV 0 0 B wm_L_123 wi_X7_thrown wv_X7_thrown wn_X7 wcode_X7_thrown rfl (by decide +kernel) ⟨(Nat.le_of_ble_eq_true rfl), (Nat.le_of_ble_eq_true rfl)⟩) rfl (zrecv B (zat (by decide) (z111 _ _ _)) cl7) zid rfl (Nat.le_of_ble_eq_true rfl) dL_law_238 ⟨(show _ ≤ 603072 by omega), (show _ ≤ 7215210 by omega)⟩ (fun v9 u9 hv9 => ?_)
  subst hv9
  refine zv_st (st' := [.int (m_X7_thrown ((m_X7_addGain ((w_L_addGain c w (xs (i + 1))).2.1) (xs (i + 1))).2))]) rfl ?_
  refine zv_iload (pc := 241) B 1 rfl dL_law_241 ?_
  refine zv_icmp_eq (pc := 243) (tgt := 248) B dL_law_243 rfl (fun _ => ?_) (fun h9 => absurd h1 h9)
  refine zv_iload (pc := 248) B 1 rfl dL_law_248 ?_
  refine zv_if_ne (pc := 250) (tgt := 265) B dL_law_250 rfl (fun hc => ?_) (fun hc => ?_)
  · refine zv_goto (pc := 265) (tgt := 2100) B rfl dL_law_265 ?_
    refine zv_widen (pc := 2100) (k' := k + 5) (n' := n + 28) (by omega) (by omega) ?_
    refine zv_loc (L' := [(0, .ref q0), (1, .ref (b + 0)), (2, .ref (b + 111)), (3, .ref (b + 124)), (4, .ref (b + 125)), (5, .int (nI i))]) [2, 3, 4, 5, 6, 7] rfl ?_
    exact next _ _ _ _ h3
  · refine zv_aload_n (pc := 253) B 5 rfl dL_law_253 ?_
    refine zv_iconst (pc := 254) (v := 0) B rfl dL_law_254 ?_
    refine zv_lald (pc := 255) (jj := 0) B (zat (by decide) (z124 _ _ _)) rfl (by decide) (by decide) dL_law_255 ?_
    refine zv_iload (pc := 256) B 0 rfl dL_law_256 ?_
    refine zv_i2l (pc := 258) B dL_law_258 ?_
    refine zv_lcmp (pc := 259) B dL_law_259 ?_
    refine zv_if_eq (pc := 260) (tgt := 265) B dL_law_260 rfl (fun _ => ?_) (fun h9 => absurd ((lg_cmp_eq _ _).mpr (h2 hc)) h9)
    refine zv_goto (pc := 265) (tgt := 2100) B rfl dL_law_265 ?_
    refine zv_widen (pc := 2100) (k' := k + 5) (n' := n + 28) (by omega) (by omega) ?_
    refine zv_loc (L' := [(0, .ref q0), (1, .ref (b + 0)), (2, .ref (b + 111)), (3, .ref (b + 124)), (4, .ref (b + 125)), (5, .int (nI i))]) [2, 3, 4, 5, 6, 7] rfl ?_
    exact next _ _ _ _ h3
set_option maxRecDepth 100000 in
set_option maxHeartbeats 400000 in
theorem law_addDelay {Inv : Nat → (Nat → Nat → Int32) → (Nat → Int64) → (Nat → Nat → Int32) → Prop} (hok : zInvOK Inv) (hP : zP_addDelay Inv) {p : Program} {l : Launch} {e : Env} {s : State} {m : MethodId} {args : Array Value} {below : List Frame} {meth : Method} {c9 : Code} {Q : State → Prop} {b : Nat} {E : zE} (B : zC p s m args meth c9 cL_law 9 "ToneGraphLaw" E b) (hlf : l.stackTraces = false) {q0 L : Nat} {xs : Nat → Int32} (hX : va_X q0 L xs s s.heap) (hbl : q0 < s.heap.size) (hb0 : s.heap.size = b) {k n i j : Nat} (hk : k + 5 ≤ 603072) (hn : n + 28 ≤ 7215210) (hi : i + 5 ≤ L) (hL : L < 2 ^ 31) {c : Nat → Nat → Int32} {w : Nat → Int64} {en : Nat → Nat} {ea : Nat → Nat → Int32} (hI : Inv j c w ea) (hj : j < 512) (next : ∀ (c' : Nat → Nat → Int32) (w' : Nat → Int64) (en' : Nat → Nat) (ea' : Nat → Nat → Int32), Inv (j + 1) c' w' ea' → zV p l e room_1 s m args below meth c9 Q 9 b (zH E b c' w' en' ea') 2100 [(0, .ref q0), (1, .ref (b + 0)), (2, .ref (b + 111)), (3, .ref (b + 124)), (4, .ref (b + 125)), (5, .int (nI i))] [] (k + 5) (n + 28)) : zV p l e room_1 s m args below meth c9 Q 9 b (zH E b c w en ea) 268 [(0, .ref q0), (1, .ref (b + 0)), (2, .ref (b + 111)), (3, .ref (b + 124)), (4, .ref (b + 125)), (5, .int (nI i))] [] k n := by
  obtain ⟨hg, hL9, hD, ht, hA, h0, hO, hS⟩ := hok j c w ea hI (by omega)
  refine zv_aload_n (pc := 268) B 1 rfl dL_law_268 ?_
  refine zv_aload_n (pc := 269) B 0 rfl dL_law_269 ?_
  refine zv_iload (pc := 270) B 5 rfl dL_law_270 ?_
  refine zv_iconst (pc := 272) (v := 1) B rfl dL_law_272 ?_
  refine zv_iadd (pc := 273) B dL_law_273 ?_
  refine zv_topi (y := nI (i + 1)) (nI_add i 1) ?_
  refine zv_sld (pc := 274) (jj := (i + 1)) B hX hbl hb0 rfl (by omega) hL dL_law_274 ?_
  refine zv_aload_n (pc := 275) B 0 rfl dL_law_275 ?_
  refine zv_iload (pc := 276) B 5 rfl dL_law_276 ?_
  refine zv_iconst (pc := 278) (v := 2) B rfl dL_law_278 ?_
  refine zv_iadd (pc := 279) B dL_law_279 ?_
  refine zv_topi (y := nI (i + 2)) (nI_add i 2) ?_
  refine zv_sld (pc := 280) (jj := (i + 2)) B hX hbl hb0 rfl (by omega) hL dL_law_280 ?_
  refine zv_aload_n (pc := 281) B 3 rfl dL_law_281 ?_
  refine zv_callSW (pc := 282) (As := [.ref (b + 0), .int (xs (i + 1)), .int (xs (i + 2)), .ref (b + 124)]) (rest := []) B (k_L_addDelay l E b c w en ea (xs (i + 1)) (xs (i + 2)) hg hlf) (zcwSW 4 8 B wm_L_127 ws_L_addDelay wn_L wcode_L_addDelay (by decide +kernel) ⟨(Nat.le_of_ble_eq_true rfl), (Nat.le_of_ble_eq_true rfl)⟩) rfl zid rfl (Nat.le_of_ble_eq_true rfl) dL_law_282 ⟨(show _ ≤ 603072 by omega), (show _ ≤ 7215210 by omega)⟩ (fun v9 u9 hv9 => ?_)
  obtain ⟨rfl, hgw, hFw⟩ := hv9
  refine zv_st (st' := [.int ((w_L_addDelay c w (xs (i + 1)) (xs (i + 2))).1)]) rfl ?_
  refine zv_istore (pc := 285) (L' := [(6, .int ((w_L_addDelay c w (xs (i + 1)) (xs (i + 2))).1)), (0, .ref q0), (1, .ref (b + 0)), (2, .ref (b + 111)), (3, .ref (b + 124)), (4, .ref (b + 125)), (5, .int (nI i))]) B (by decide) rfl dL_law_285 ?_
  refine zv_aload_n (pc := 287) B 3 rfl dL_law_287 ?_
  refine zv_aload_n (pc := 288) B 1 rfl dL_law_288 ?_
  refine zv_iload (pc := 289) B 6 rfl dL_law_289 ?_
  refine zv_iconst (pc := 291) (v := 1) B rfl dL_law_291 ?_
  refine zv_iadd (pc := 292) B dL_law_292 ?_
  refine zv_topi (y := nI (i + 1)) (nI_add i 1) ?_
  refine zv_sld (pc := 293) (jj := (i + 1)) B hX hbl hb0 rfl (by omega) hL dL_law_293 ?_
  refine zv_aload_n (pc := 294) B 1 rfl dL_law_294 ?_
  refine zv_iload (pc := 295) B 6 rfl dL_law_295 ?_
  refine zv_iconst (pc := 297) (v := 2) B rfl dL_law_297 ?_
  refine zv_iadd (pc := 298) B dL_law_298 ?_
  refine zv_topi (y := nI (i + 2)) (nI_add i 2) ?_
  refine zv_sld (pc := 299) (jj := (i + 2)) B hX hbl hb0 rfl (by omega) hL dL_law_299 ?_
  refine zv_callV (pc := 300) (As := [.int (xs (i + 1)), .int (xs (i + 2))]) (rest := []) B (k_X7_addDelay l E b _ _ _ _ (xs (i + 1)) (xs (i + 2)) (by rw [hFw 111 (by omega)]; exact hA.congr (hFw 114 (by omega)) (hFw 118 (by omega)) (hFw 120 (by omega))) (by rw [hFw 111 (by omega), hFw 120 (by omega)]; exact h0) hgw) (zcwV 2 3 B wm_L_130 wi_X7_addDelay wv_X7_addDelay wn_X7 wcode_X7_addDelay rfl (by decide +kernel) ⟨(Nat.le_of_ble_eq_true rfl), (Nat.le_of_ble_eq_true rfl)⟩) rfl (zrecv B (zat (by decide) (z111 _ _ _)) cl7) zid rfl (Nat.le_of_ble_eq_true rfl) dL_law_300 ⟨(show _ ≤ 603072 by omega), (show _ ≤ 7215210 by omega)⟩ (fun v9 u9 hv9 => ?_)
  obtain ⟨rfl, hF7, hg7⟩ := hv9
  refine zv_st (st' := [.int ((m_X7_addDelay ((w_L_addDelay c w (xs (i + 1)) (xs (i + 2))).2.1) (xs (i + 1)) (xs (i + 2))).1)]) rfl ?_
  obtain ⟨h1, h2, h3⟩ := hP j c w en ea (xs (i + 1)) (xs (i + 2)) hI hj hFw hgw hF7 hg7
  refine zv_istore (pc := 303) (L' := [(7, .int ((m_X7_addDelay ((w_L_addDelay c w (xs (i + 1)) (xs (i + 2))).2.1) (xs (i + 1)) (xs (i + 2))).1)), (6, .int ((w_L_addDelay c w (xs (i + 1)) (xs (i + 2))).1)), (0, .ref q0), (1, .ref (b + 0)), (2, .ref (b + 111)), (3, .ref (b + 124)), (4, .ref (b + 125)), (5, .int (nI i))]) B (by decide) rfl dL_law_303 ?_
  refine zv_aload_n (pc := 305) B 4 rfl dL_law_305 ?_
  refine zv_callV (pc := 306) (As := []) (rest := []) B (k_X7_thrown l E b _ _ _ _ ) (zcwV 0 0 B wm_L_123 wi_X7_thrown wv_X7_thrown wn_X7 wcode_X7_thrown rfl (by decide +kernel) ⟨(Nat.le_of_ble_eq_true rfl), (Nat.le_of_ble_eq_true rfl)⟩) rfl (zrecv B (zat (by decide) (z111 _ _ _)) cl7) zid rfl (Nat.le_of_ble_eq_true rfl) dL_law_306 ⟨(show _ ≤ 603072 by omega), (show _ ≤ 7215210 by omega)⟩ (fun v9 u9 hv9 => ?_)
  subst hv9
  refine zv_st (st' := [.int (m_X7_thrown ((m_X7_addDelay ((w_L_addDelay c w (xs (i + 1)) (xs (i + 2))).2.1) (xs (i + 1)) (xs (i + 2))).2))]) rfl ?_
  refine zv_iload (pc := 309) B 1 rfl dL_law_309 ?_
  refine zv_icmp_eq (pc := 311) (tgt := 316) B dL_law_311 rfl (fun _ => ?_) (fun h9 => absurd h1 h9)
  refine zv_iload (pc := 316) B 1 rfl dL_law_316 ?_
  refine zv_if_ne (pc := 318) (tgt := 333) B dL_law_318 rfl (fun hc => ?_) (fun hc => ?_)
  · refine zv_goto (pc := 333) (tgt := 2100) B rfl dL_law_333 ?_
    refine zv_widen (pc := 2100) (k' := k + 5) (n' := n + 28) (by omega) (by omega) ?_
    refine zv_loc (L' := [(0, .ref q0), (1, .ref (b + 0)), (2, .ref (b + 111)), (3, .ref (b + 124)), (4, .ref (b + 125)), (5, .int (nI i))]) [2, 3, 4, 5, 6, 7] rfl ?_
    exact next _ _ _ _ h3
  · refine zv_aload_n (pc := 321) B 5 rfl dL_law_321 ?_
    refine zv_iconst (pc := 322) (v := 0) B rfl dL_law_322 ?_
    refine zv_lald (pc := 323) (jj := 0) B (zat (by decide) (z124 _ _ _)) rfl (by decide) (by decide) dL_law_323 ?_
    refine zv_iload (pc := 324) B 0 rfl dL_law_324 ?_
    refine zv_i2l (pc := 326) B dL_law_326 ?_
    refine zv_lcmp (pc := 327) B dL_law_327 ?_
    refine zv_if_eq (pc := 328) (tgt := 333) B dL_law_328 rfl (fun _ => ?_) (fun h9 => absurd ((lg_cmp_eq _ _).mpr (h2 hc)) h9)
    refine zv_goto (pc := 333) (tgt := 2100) B rfl dL_law_333 ?_
    refine zv_widen (pc := 2100) (k' := k + 5) (n' := n + 28) (by omega) (by omega) ?_
    refine zv_loc (L' := [(0, .ref q0), (1, .ref (b + 0)), (2, .ref (b + 111)), (3, .ref (b + 124)), (4, .ref (b + 125)), (5, .int (nI i))]) [2, 3, 4, 5, 6, 7] rfl ?_
    exact next _ _ _ _ h3
set_option maxRecDepth 100000 in
set_option maxHeartbeats 400000 in
theorem law_addFilter {Inv : Nat → (Nat → Nat → Int32) → (Nat → Int64) → (Nat → Nat → Int32) → Prop} (hok : zInvOK Inv) (hP : zP_addFilter Inv) {p : Program} {l : Launch} {e : Env} {s : State} {m : MethodId} {args : Array Value} {below : List Frame} {meth : Method} {c9 : Code} {Q : State → Prop} {b : Nat} {E : zE} (B : zC p s m args meth c9 cL_law 9 "ToneGraphLaw" E b) (hlf : l.stackTraces = false) {q0 L : Nat} {xs : Nat → Int32} (hX : va_X q0 L xs s s.heap) (hbl : q0 < s.heap.size) (hb0 : s.heap.size = b) {k n i j : Nat} (hk : k + 5 ≤ 603072) (hn : n + 28 ≤ 7215210) (hi : i + 5 ≤ L) (hL : L < 2 ^ 31) {c : Nat → Nat → Int32} {w : Nat → Int64} {en : Nat → Nat} {ea : Nat → Nat → Int32} (hI : Inv j c w ea) (hj : j < 512) (next : ∀ (c' : Nat → Nat → Int32) (w' : Nat → Int64) (en' : Nat → Nat) (ea' : Nat → Nat → Int32), Inv (j + 1) c' w' ea' → zV p l e room_1 s m args below meth c9 Q 9 b (zH E b c' w' en' ea') 2100 [(0, .ref q0), (1, .ref (b + 0)), (2, .ref (b + 111)), (3, .ref (b + 124)), (4, .ref (b + 125)), (5, .int (nI i))] [] (k + 5) (n + 28)) : zV p l e room_1 s m args below meth c9 Q 9 b (zH E b c w en ea) 336 [(0, .ref q0), (1, .ref (b + 0)), (2, .ref (b + 111)), (3, .ref (b + 124)), (4, .ref (b + 125)), (5, .int (nI i))] [] k n := by
  obtain ⟨hg, hL9, hD, ht, hA, h0, hO, hS⟩ := hok j c w ea hI (by omega)
  refine zv_aload_n (pc := 336) B 1 rfl dL_law_336 ?_
  refine zv_aload_n (pc := 337) B 0 rfl dL_law_337 ?_
  refine zv_iload (pc := 338) B 5 rfl dL_law_338 ?_
  refine zv_iconst (pc := 340) (v := 1) B rfl dL_law_340 ?_
  refine zv_iadd (pc := 341) B dL_law_341 ?_
  refine zv_topi (y := nI (i + 1)) (nI_add i 1) ?_
  refine zv_sld (pc := 342) (jj := (i + 1)) B hX hbl hb0 rfl (by omega) hL dL_law_342 ?_
  refine zv_aload_n (pc := 343) B 0 rfl dL_law_343 ?_
  refine zv_iload (pc := 344) B 5 rfl dL_law_344 ?_
  refine zv_iconst (pc := 346) (v := 2) B rfl dL_law_346 ?_
  refine zv_iadd (pc := 347) B dL_law_347 ?_
  refine zv_topi (y := nI (i + 2)) (nI_add i 2) ?_
  refine zv_sld (pc := 348) (jj := (i + 2)) B hX hbl hb0 rfl (by omega) hL dL_law_348 ?_
  refine zv_aload_n (pc := 349) B 0 rfl dL_law_349 ?_
  refine zv_iload (pc := 350) B 5 rfl dL_law_350 ?_
  refine zv_iconst (pc := 352) (v := 3) B rfl dL_law_352 ?_
  refine zv_iadd (pc := 353) B dL_law_353 ?_
  refine zv_topi (y := nI (i + 3)) (nI_add i 3) ?_
  refine zv_sld (pc := 354) (jj := (i + 3)) B hX hbl hb0 rfl (by omega) hL dL_law_354 ?_
  refine zv_aload_n (pc := 355) B 3 rfl dL_law_355 ?_
  refine zv_callSW (pc := 356) (As := [.ref (b + 0), .int (xs (i + 1)), .int (xs (i + 2)), .int (xs (i + 3)), .ref (b + 124)]) (rest := []) B (k_L_addFilter l E b c w en ea (xs (i + 1)) (xs (i + 2)) (xs (i + 3)) hg hlf) (zcwSW 5 8 B wm_L_131 ws_L_addFilter wn_L wcode_L_addFilter (by decide +kernel) ⟨(Nat.le_of_ble_eq_true rfl), (Nat.le_of_ble_eq_true rfl)⟩) rfl zid rfl (Nat.le_of_ble_eq_true rfl) dL_law_356 ⟨(show _ ≤ 603072 by omega), (show _ ≤ 7215210 by omega)⟩ (fun v9 u9 hv9 => ?_)
  obtain ⟨rfl, hgw, hFw⟩ := hv9
  refine zv_st (st' := [.int ((w_L_addFilter c w (xs (i + 1)) (xs (i + 2)) (xs (i + 3))).1)]) rfl ?_
  refine zv_istore (pc := 359) (L' := [(6, .int ((w_L_addFilter c w (xs (i + 1)) (xs (i + 2)) (xs (i + 3))).1)), (0, .ref q0), (1, .ref (b + 0)), (2, .ref (b + 111)), (3, .ref (b + 124)), (4, .ref (b + 125)), (5, .int (nI i))]) B (by decide) rfl dL_law_359 ?_
  refine zv_aload_n (pc := 361) B 3 rfl dL_law_361 ?_
  refine zv_aload_n (pc := 362) B 1 rfl dL_law_362 ?_
  refine zv_iload (pc := 363) B 6 rfl dL_law_363 ?_
  refine zv_iconst (pc := 365) (v := 1) B rfl dL_law_365 ?_
  refine zv_iadd (pc := 366) B dL_law_366 ?_
  refine zv_topi (y := nI (i + 1)) (nI_add i 1) ?_
  refine zv_sld (pc := 367) (jj := (i + 1)) B hX hbl hb0 rfl (by omega) hL dL_law_367 ?_
  refine zv_aload_n (pc := 368) B 1 rfl dL_law_368 ?_
  refine zv_iload (pc := 369) B 6 rfl dL_law_369 ?_
  refine zv_iconst (pc := 371) (v := 2) B rfl dL_law_371 ?_
  refine zv_iadd (pc := 372) B dL_law_372 ?_
  refine zv_topi (y := nI (i + 2)) (nI_add i 2) ?_
  refine zv_sld (pc := 373) (jj := (i + 2)) B hX hbl hb0 rfl (by omega) hL dL_law_373 ?_
  refine zv_aload_n (pc := 374) B 1 rfl dL_law_374 ?_
  refine zv_iload (pc := 375) B 6 rfl dL_law_375 ?_
  refine zv_iconst (pc := 377) (v := 3) B rfl dL_law_377 ?_
  refine zv_iadd (pc := 378) B dL_law_378 ?_
  refine zv_topi (y := nI (i + 3)) (nI_add i 3) ?_
  refine zv_sld (pc := 379) (jj := (i + 3)) B hX hbl hb0 rfl (by omega) hL dL_law_379 ?_
  refine zv_callV (pc := 380) (As := [.int (xs (i + 1)), .int (xs (i + 2)), .int (xs (i + 3))]) (rest := []) B (k_X7_addFilter l E b _ _ _ _ (xs (i + 1)) (xs (i + 2)) (xs (i + 3)) (by rw [hFw 111 (by omega)]; exact hA.congr (hFw 114 (by omega)) (hFw 118 (by omega)) (hFw 120 (by omega))) (by rw [hFw 111 (by omega), hFw 120 (by omega)]; exact h0) hgw) (zcwV 3 3 B wm_L_134 wi_X7_addFilter wv_X7_addFilter wn_X7 wcode_X7_addFilter rfl (by decide +kernel) ⟨(Nat.le_of_ble_eq_true rfl), (Nat.le_of_ble_eq_true rfl)⟩) rfl (zrecv B (zat (by decide) (z111 _ _ _)) cl7) zid rfl (Nat.le_of_ble_eq_true rfl) dL_law_380 ⟨(show _ ≤ 603072 by omega), (show _ ≤ 7215210 by omega)⟩ (fun v9 u9 hv9 => ?_)
  obtain ⟨rfl, hF7, hg7⟩ := hv9
  refine zv_st (st' := [.int ((m_X7_addFilter ((w_L_addFilter c w (xs (i + 1)) (xs (i + 2)) (xs (i + 3))).2.1) (xs (i + 1)) (xs (i + 2)) (xs (i + 3))).1)]) rfl ?_
  obtain ⟨h1, h2, h3⟩ := hP j c w en ea (xs (i + 1)) (xs (i + 2)) (xs (i + 3)) hI hj hFw hgw hF7 hg7
  refine zv_istore (pc := 383) (L' := [(7, .int ((m_X7_addFilter ((w_L_addFilter c w (xs (i + 1)) (xs (i + 2)) (xs (i + 3))).2.1) (xs (i + 1)) (xs (i + 2)) (xs (i + 3))).1)), (6, .int ((w_L_addFilter c w (xs (i + 1)) (xs (i + 2)) (xs (i + 3))).1)), (0, .ref q0), (1, .ref (b + 0)), (2, .ref (b + 111)), (3, .ref (b + 124)), (4, .ref (b + 125)), (5, .int (nI i))]) B (by decide) rfl dL_law_383 ?_
  refine zv_aload_n (pc := 385) B 4 rfl dL_law_385 ?_
  refine zv_callV (pc := 386) (As := []) (rest := []) B (k_X7_thrown l E b _ _ _ _ ) (zcwV 0 0 B wm_L_123 wi_X7_thrown wv_X7_thrown wn_X7 wcode_X7_thrown rfl (by decide +kernel) ⟨(Nat.le_of_ble_eq_true rfl), (Nat.le_of_ble_eq_true rfl)⟩) rfl (zrecv B (zat (by decide) (z111 _ _ _)) cl7) zid rfl (Nat.le_of_ble_eq_true rfl) dL_law_386 ⟨(show _ ≤ 603072 by omega), (show _ ≤ 7215210 by omega)⟩ (fun v9 u9 hv9 => ?_)
  subst hv9
  refine zv_st (st' := [.int (m_X7_thrown ((m_X7_addFilter ((w_L_addFilter c w (xs (i + 1)) (xs (i + 2)) (xs (i + 3))).2.1) (xs (i + 1)) (xs (i + 2)) (xs (i + 3))).2))]) rfl ?_
  refine zv_iload (pc := 389) B 1 rfl dL_law_389 ?_
  refine zv_icmp_eq (pc := 391) (tgt := 396) B dL_law_391 rfl (fun _ => ?_) (fun h9 => absurd h1 h9)
  refine zv_iload (pc := 396) B 1 rfl dL_law_396 ?_
  refine zv_if_ne (pc := 398) (tgt := 413) B dL_law_398 rfl (fun hc => ?_) (fun hc => ?_)
  · refine zv_goto (pc := 413) (tgt := 2100) B rfl dL_law_413 ?_
    refine zv_widen (pc := 2100) (k' := k + 5) (n' := n + 28) (by omega) (by omega) ?_
    refine zv_loc (L' := [(0, .ref q0), (1, .ref (b + 0)), (2, .ref (b + 111)), (3, .ref (b + 124)), (4, .ref (b + 125)), (5, .int (nI i))]) [2, 3, 4, 5, 6, 7] rfl ?_
    exact next _ _ _ _ h3
  · refine zv_aload_n (pc := 401) B 5 rfl dL_law_401 ?_
    refine zv_iconst (pc := 402) (v := 0) B rfl dL_law_402 ?_
    refine zv_lald (pc := 403) (jj := 0) B (zat (by decide) (z124 _ _ _)) rfl (by decide) (by decide) dL_law_403 ?_
    refine zv_iload (pc := 404) B 0 rfl dL_law_404 ?_
    refine zv_i2l (pc := 406) B dL_law_406 ?_
    refine zv_lcmp (pc := 407) B dL_law_407 ?_
    refine zv_if_eq (pc := 408) (tgt := 413) B dL_law_408 rfl (fun _ => ?_) (fun h9 => absurd ((lg_cmp_eq _ _).mpr (h2 hc)) h9)
    refine zv_goto (pc := 413) (tgt := 2100) B rfl dL_law_413 ?_
    refine zv_widen (pc := 2100) (k' := k + 5) (n' := n + 28) (by omega) (by omega) ?_
    refine zv_loc (L' := [(0, .ref q0), (1, .ref (b + 0)), (2, .ref (b + 111)), (3, .ref (b + 124)), (4, .ref (b + 125)), (5, .int (nI i))]) [2, 3, 4, 5, 6, 7] rfl ?_
    exact next _ _ _ _ h3
set_option maxRecDepth 100000 in
set_option maxHeartbeats 400000 in
theorem law_addBus {Inv : Nat → (Nat → Nat → Int32) → (Nat → Int64) → (Nat → Nat → Int32) → Prop} (hok : zInvOK Inv) (hP : zP_addBus Inv) {p : Program} {l : Launch} {e : Env} {s : State} {m : MethodId} {args : Array Value} {below : List Frame} {meth : Method} {c9 : Code} {Q : State → Prop} {b : Nat} {E : zE} (B : zC p s m args meth c9 cL_law 9 "ToneGraphLaw" E b) (hlf : l.stackTraces = false) {q0 L : Nat} {xs : Nat → Int32} (hX : va_X q0 L xs s s.heap) (hbl : q0 < s.heap.size) (hb0 : s.heap.size = b) {k n i j : Nat} (hk : k + 5 ≤ 603072) (hn : n + 28 ≤ 7215210) (hi : i + 5 ≤ L) (hL : L < 2 ^ 31) {c : Nat → Nat → Int32} {w : Nat → Int64} {en : Nat → Nat} {ea : Nat → Nat → Int32} (hI : Inv j c w ea) (hj : j < 512) (next : ∀ (c' : Nat → Nat → Int32) (w' : Nat → Int64) (en' : Nat → Nat) (ea' : Nat → Nat → Int32), Inv (j + 1) c' w' ea' → zV p l e room_1 s m args below meth c9 Q 9 b (zH E b c' w' en' ea') 2100 [(0, .ref q0), (1, .ref (b + 0)), (2, .ref (b + 111)), (3, .ref (b + 124)), (4, .ref (b + 125)), (5, .int (nI i))] [] (k + 5) (n + 28)) : zV p l e room_1 s m args below meth c9 Q 9 b (zH E b c w en ea) 416 [(0, .ref q0), (1, .ref (b + 0)), (2, .ref (b + 111)), (3, .ref (b + 124)), (4, .ref (b + 125)), (5, .int (nI i))] [] k n := by
  obtain ⟨hg, hL9, hD, ht, hA, h0, hO, hS⟩ := hok j c w ea hI (by omega)
  refine zv_aload_n (pc := 416) B 1 rfl dL_law_416 ?_
  refine zv_aload_n (pc := 417) B 0 rfl dL_law_417 ?_
  refine zv_iload (pc := 418) B 5 rfl dL_law_418 ?_
  refine zv_iconst (pc := 420) (v := 1) B rfl dL_law_420 ?_
  refine zv_iadd (pc := 421) B dL_law_421 ?_
  refine zv_topi (y := nI (i + 1)) (nI_add i 1) ?_
  refine zv_sld (pc := 422) (jj := (i + 1)) B hX hbl hb0 rfl (by omega) hL dL_law_422 ?_
  refine zv_aload_n (pc := 423) B 3 rfl dL_law_423 ?_
  refine zv_callSW (pc := 424) (As := [.ref (b + 0), .int (xs (i + 1)), .ref (b + 124)]) (rest := []) B (k_L_addBus l E b c w en ea (xs (i + 1)) hg hlf) (zcwSW 3 8 B wm_L_135 ws_L_addBus wn_L wcode_L_addBus (by decide +kernel) ⟨(Nat.le_of_ble_eq_true rfl), (Nat.le_of_ble_eq_true rfl)⟩) rfl zid rfl (Nat.le_of_ble_eq_true rfl) dL_law_424 ⟨(show _ ≤ 603072 by omega), (show _ ≤ 7215210 by omega)⟩ (fun v9 u9 hv9 => ?_)
  obtain ⟨rfl, hgw, hFw⟩ := hv9
  refine zv_st (st' := [.int ((w_L_addBus c w (xs (i + 1))).1)]) rfl ?_
  refine zv_istore (pc := 427) (L' := [(6, .int ((w_L_addBus c w (xs (i + 1))).1)), (0, .ref q0), (1, .ref (b + 0)), (2, .ref (b + 111)), (3, .ref (b + 124)), (4, .ref (b + 125)), (5, .int (nI i))]) B (by decide) rfl dL_law_427 ?_
  refine zv_aload_n (pc := 429) B 3 rfl dL_law_429 ?_
  refine zv_aload_n (pc := 430) B 1 rfl dL_law_430 ?_
  refine zv_iload (pc := 431) B 6 rfl dL_law_431 ?_
  refine zv_iconst (pc := 433) (v := 1) B rfl dL_law_433 ?_
  refine zv_iadd (pc := 434) B dL_law_434 ?_
  refine zv_topi (y := nI (i + 1)) (nI_add i 1) ?_
  refine zv_sld (pc := 435) (jj := (i + 1)) B hX hbl hb0 rfl (by omega) hL dL_law_435 ?_
  refine zv_callV (pc := 436) (As := [.int (xs (i + 1))]) (rest := []) B (k_X7_addBus l E b _ _ _ _ (xs (i + 1)) (by rw [hFw 111 (by omega)]; exact hA.congr (hFw 114 (by omega)) (hFw 118 (by omega)) (hFw 120 (by omega))) (by rw [hFw 111 (by omega), hFw 120 (by omega)]; exact h0) hgw) (zcwV 1 3 B wm_L_137 wi_X7_addBus wv_X7_addBus wn_X7 wcode_X7_addBus rfl (by decide +kernel) ⟨(Nat.le_of_ble_eq_true rfl), (Nat.le_of_ble_eq_true rfl)⟩) rfl (zrecv B (zat (by decide) (z111 _ _ _)) cl7) zid rfl (Nat.le_of_ble_eq_true rfl) dL_law_436 ⟨(show _ ≤ 603072 by omega), (show _ ≤ 7215210 by omega)⟩ (fun v9 u9 hv9 => ?_)
  obtain ⟨rfl, hF7, hg7⟩ := hv9
  refine zv_st (st' := [.int ((m_X7_addBus ((w_L_addBus c w (xs (i + 1))).2.1) (xs (i + 1))).1)]) rfl ?_
  obtain ⟨h1, h2, h3⟩ := hP j c w en ea (xs (i + 1)) hI hj hFw hgw hF7 hg7
  refine zv_istore (pc := 439) (L' := [(7, .int ((m_X7_addBus ((w_L_addBus c w (xs (i + 1))).2.1) (xs (i + 1))).1)), (6, .int ((w_L_addBus c w (xs (i + 1))).1)), (0, .ref q0), (1, .ref (b + 0)), (2, .ref (b + 111)), (3, .ref (b + 124)), (4, .ref (b + 125)), (5, .int (nI i))]) B (by decide) rfl dL_law_439 ?_
  refine zv_aload_n (pc := 441) B 4 rfl dL_law_441 ?_
  refine zv_callV (pc := 442) (As := []) (rest := []) B (k_X7_thrown l E b _ _ _ _ ) (zcwV 0 0 B wm_L_123 wi_X7_thrown wv_X7_thrown wn_X7 wcode_X7_thrown rfl (by decide +kernel) ⟨(Nat.le_of_ble_eq_true rfl), (Nat.le_of_ble_eq_true rfl)⟩) rfl (zrecv B (zat (by decide) (z111 _ _ _)) cl7) zid rfl (Nat.le_of_ble_eq_true rfl) dL_law_442 ⟨(show _ ≤ 603072 by omega), (show _ ≤ 7215210 by omega)⟩ (fun v9 u9 hv9 => ?_)
  subst hv9
  refine zv_st (st' := [.int (m_X7_thrown ((m_X7_addBus ((w_L_addBus c w (xs (i + 1))).2.1) (xs (i + 1))).2))]) rfl ?_
  refine zv_iload (pc := 445) B 1 rfl dL_law_445 ?_
  refine zv_icmp_eq (pc := 447) (tgt := 452) B dL_law_447 rfl (fun _ => ?_) (fun h9 => absurd h1 h9)
  refine zv_iload (pc := 452) B 1 rfl dL_law_452 ?_
  refine zv_if_ne (pc := 454) (tgt := 469) B dL_law_454 rfl (fun hc => ?_) (fun hc => ?_)
  · refine zv_goto (pc := 469) (tgt := 2100) B rfl dL_law_469 ?_
    refine zv_widen (pc := 2100) (k' := k + 5) (n' := n + 28) (by omega) (by omega) ?_
    refine zv_loc (L' := [(0, .ref q0), (1, .ref (b + 0)), (2, .ref (b + 111)), (3, .ref (b + 124)), (4, .ref (b + 125)), (5, .int (nI i))]) [2, 3, 4, 5, 6, 7] rfl ?_
    exact next _ _ _ _ h3
  · refine zv_aload_n (pc := 457) B 5 rfl dL_law_457 ?_
    refine zv_iconst (pc := 458) (v := 0) B rfl dL_law_458 ?_
    refine zv_lald (pc := 459) (jj := 0) B (zat (by decide) (z124 _ _ _)) rfl (by decide) (by decide) dL_law_459 ?_
    refine zv_iload (pc := 460) B 0 rfl dL_law_460 ?_
    refine zv_i2l (pc := 462) B dL_law_462 ?_
    refine zv_lcmp (pc := 463) B dL_law_463 ?_
    refine zv_if_eq (pc := 464) (tgt := 469) B dL_law_464 rfl (fun _ => ?_) (fun h9 => absurd ((lg_cmp_eq _ _).mpr (h2 hc)) h9)
    refine zv_goto (pc := 469) (tgt := 2100) B rfl dL_law_469 ?_
    refine zv_widen (pc := 2100) (k' := k + 5) (n' := n + 28) (by omega) (by omega) ?_
    refine zv_loc (L' := [(0, .ref q0), (1, .ref (b + 0)), (2, .ref (b + 111)), (3, .ref (b + 124)), (4, .ref (b + 125)), (5, .int (nI i))]) [2, 3, 4, 5, 6, 7] rfl ?_
    exact next _ _ _ _ h3
set_option maxRecDepth 100000 in
set_option maxHeartbeats 400000 in
theorem law_connect {Inv : Nat → (Nat → Nat → Int32) → (Nat → Int64) → (Nat → Nat → Int32) → Prop} (hok : zInvOK Inv) (hP : zP_connect Inv) {p : Program} {l : Launch} {e : Env} {s : State} {m : MethodId} {args : Array Value} {below : List Frame} {meth : Method} {c9 : Code} {Q : State → Prop} {b : Nat} {E : zE} (B : zC p s m args meth c9 cL_law 9 "ToneGraphLaw" E b) (hlf : l.stackTraces = false) {q0 L : Nat} {xs : Nat → Int32} (hX : va_X q0 L xs s s.heap) (hbl : q0 < s.heap.size) (hb0 : s.heap.size = b) {k n i j : Nat} (hk : k + 5 ≤ 603072) (hn : n + 28 ≤ 7215210) (hi : i + 5 ≤ L) (hL : L < 2 ^ 31) {c : Nat → Nat → Int32} {w : Nat → Int64} {en : Nat → Nat} {ea : Nat → Nat → Int32} (hI : Inv j c w ea) (hj : j < 512) (next : ∀ (c' : Nat → Nat → Int32) (w' : Nat → Int64) (en' : Nat → Nat) (ea' : Nat → Nat → Int32), Inv (j + 1) c' w' ea' → zV p l e room_1 s m args below meth c9 Q 9 b (zH E b c' w' en' ea') 2100 [(0, .ref q0), (1, .ref (b + 0)), (2, .ref (b + 111)), (3, .ref (b + 124)), (4, .ref (b + 125)), (5, .int (nI i))] [] (k + 5) (n + 28)) : zV p l e room_1 s m args below meth c9 Q 9 b (zH E b c w en ea) 472 [(0, .ref q0), (1, .ref (b + 0)), (2, .ref (b + 111)), (3, .ref (b + 124)), (4, .ref (b + 125)), (5, .int (nI i))] [] k n := by
  obtain ⟨hg, hL9, hD, ht, hA, h0, hO, hS⟩ := hok j c w ea hI (by omega)
  refine zv_aload_n (pc := 472) B 1 rfl dL_law_472 ?_
  refine zv_aload_n (pc := 473) B 0 rfl dL_law_473 ?_
  refine zv_iload (pc := 474) B 5 rfl dL_law_474 ?_
  refine zv_iconst (pc := 476) (v := 1) B rfl dL_law_476 ?_
  refine zv_iadd (pc := 477) B dL_law_477 ?_
  refine zv_topi (y := nI (i + 1)) (nI_add i 1) ?_
  refine zv_sld (pc := 478) (jj := (i + 1)) B hX hbl hb0 rfl (by omega) hL dL_law_478 ?_
  refine zv_aload_n (pc := 479) B 0 rfl dL_law_479 ?_
  refine zv_iload (pc := 480) B 5 rfl dL_law_480 ?_
  refine zv_iconst (pc := 482) (v := 2) B rfl dL_law_482 ?_
  refine zv_iadd (pc := 483) B dL_law_483 ?_
  refine zv_topi (y := nI (i + 2)) (nI_add i 2) ?_
  refine zv_sld (pc := 484) (jj := (i + 2)) B hX hbl hb0 rfl (by omega) hL dL_law_484 ?_
  refine zv_aload_n (pc := 485) B 0 rfl dL_law_485 ?_
  refine zv_iload (pc := 486) B 5 rfl dL_law_486 ?_
  refine zv_iconst (pc := 488) (v := 3) B rfl dL_law_488 ?_
  refine zv_iadd (pc := 489) B dL_law_489 ?_
  refine zv_topi (y := nI (i + 3)) (nI_add i 3) ?_
  refine zv_sld (pc := 490) (jj := (i + 3)) B hX hbl hb0 rfl (by omega) hL dL_law_490 ?_
  refine zv_aload_n (pc := 491) B 3 rfl dL_law_491 ?_
  refine zv_callSW (pc := 492) (As := [.ref (b + 0), .int (xs (i + 1)), .int (xs (i + 2)), .int (xs (i + 3)), .ref (b + 124)]) (rest := []) B (k_L_connect l E b c w en ea (xs (i + 1)) (xs (i + 2)) (xs (i + 3)) hg hlf) (zcwSW 5 8 B wm_L_138 ws_L_connect wn_L wcode_L_connect (by decide +kernel) ⟨(Nat.le_of_ble_eq_true rfl), (Nat.le_of_ble_eq_true rfl)⟩) rfl zid rfl (Nat.le_of_ble_eq_true rfl) dL_law_492 ⟨(show _ ≤ 603072 by omega), (show _ ≤ 7215210 by omega)⟩ (fun v9 u9 hv9 => ?_)
  obtain ⟨rfl, hgw, hFw⟩ := hv9
  refine zv_st (st' := [.int ((w_L_connect c w (xs (i + 1)) (xs (i + 2)) (xs (i + 3))).1)]) rfl ?_
  refine zv_istore (pc := 495) (L' := [(6, .int ((w_L_connect c w (xs (i + 1)) (xs (i + 2)) (xs (i + 3))).1)), (0, .ref q0), (1, .ref (b + 0)), (2, .ref (b + 111)), (3, .ref (b + 124)), (4, .ref (b + 125)), (5, .int (nI i))]) B (by decide) rfl dL_law_495 ?_
  refine zv_aload_n (pc := 497) B 3 rfl dL_law_497 ?_
  refine zv_aload_n (pc := 498) B 1 rfl dL_law_498 ?_
  refine zv_iload (pc := 499) B 6 rfl dL_law_499 ?_
  refine zv_iconst (pc := 501) (v := 1) B rfl dL_law_501 ?_
  refine zv_iadd (pc := 502) B dL_law_502 ?_
  refine zv_topi (y := nI (i + 1)) (nI_add i 1) ?_
  refine zv_sld (pc := 503) (jj := (i + 1)) B hX hbl hb0 rfl (by omega) hL dL_law_503 ?_
  refine zv_aload_n (pc := 504) B 1 rfl dL_law_504 ?_
  refine zv_iload (pc := 505) B 6 rfl dL_law_505 ?_
  refine zv_iconst (pc := 507) (v := 2) B rfl dL_law_507 ?_
  refine zv_iadd (pc := 508) B dL_law_508 ?_
  refine zv_topi (y := nI (i + 2)) (nI_add i 2) ?_
  refine zv_sld (pc := 509) (jj := (i + 2)) B hX hbl hb0 rfl (by omega) hL dL_law_509 ?_
  refine zv_aload_n (pc := 510) B 1 rfl dL_law_510 ?_
  refine zv_iload (pc := 511) B 6 rfl dL_law_511 ?_
  refine zv_iconst (pc := 513) (v := 3) B rfl dL_law_513 ?_
  refine zv_iadd (pc := 514) B dL_law_514 ?_
  refine zv_topi (y := nI (i + 3)) (nI_add i 3) ?_
  refine zv_sld (pc := 515) (jj := (i + 3)) B hX hbl hb0 rfl (by omega) hL dL_law_515 ?_
  refine zv_callV (pc := 516) (As := [.int (xs (i + 1)), .int (xs (i + 2)), .int (xs (i + 3))]) (rest := []) B (k_X7_connect l E b _ _ _ _ (xs (i + 1)) (xs (i + 2)) (xs (i + 3)) (by rw [hFw 111 (by omega)]; exact hA.congr (hFw 114 (by omega)) (hFw 118 (by omega)) (hFw 120 (by omega))) hgw) (zcwV 3 2 B wm_L_140 wi_X7_connect wv_X7_connect wn_X7 wcode_X7_connect rfl (by decide +kernel) ⟨(Nat.le_of_ble_eq_true rfl), (Nat.le_of_ble_eq_true rfl)⟩) rfl (zrecv B (zat (by decide) (z111 _ _ _)) cl7) zid rfl (Nat.le_of_ble_eq_true rfl) dL_law_516 ⟨(show _ ≤ 603072 by omega), (show _ ≤ 7215210 by omega)⟩ (fun v9 u9 hv9 => ?_)
  obtain ⟨rfl, hF7, hg7⟩ := hv9
  refine zv_st (st' := [.int ((m_X7_connect ((w_L_connect c w (xs (i + 1)) (xs (i + 2)) (xs (i + 3))).2.1) (xs (i + 1)) (xs (i + 2)) (xs (i + 3))).1)]) rfl ?_
  obtain ⟨h1, h2, h3⟩ := hP j c w en ea (xs (i + 1)) (xs (i + 2)) (xs (i + 3)) hI hj hFw hgw hF7 hg7
  refine zv_istore (pc := 519) (L' := [(7, .int ((m_X7_connect ((w_L_connect c w (xs (i + 1)) (xs (i + 2)) (xs (i + 3))).2.1) (xs (i + 1)) (xs (i + 2)) (xs (i + 3))).1)), (6, .int ((w_L_connect c w (xs (i + 1)) (xs (i + 2)) (xs (i + 3))).1)), (0, .ref q0), (1, .ref (b + 0)), (2, .ref (b + 111)), (3, .ref (b + 124)), (4, .ref (b + 125)), (5, .int (nI i))]) B (by decide) rfl dL_law_519 ?_
  refine zv_aload_n (pc := 521) B 4 rfl dL_law_521 ?_
  refine zv_callV (pc := 522) (As := []) (rest := []) B (k_X7_thrown l E b _ _ _ _ ) (zcwV 0 0 B wm_L_123 wi_X7_thrown wv_X7_thrown wn_X7 wcode_X7_thrown rfl (by decide +kernel) ⟨(Nat.le_of_ble_eq_true rfl), (Nat.le_of_ble_eq_true rfl)⟩) rfl (zrecv B (zat (by decide) (z111 _ _ _)) cl7) zid rfl (Nat.le_of_ble_eq_true rfl) dL_law_522 ⟨(show _ ≤ 603072 by omega), (show _ ≤ 7215210 by omega)⟩ (fun v9 u9 hv9 => ?_)
  subst hv9
  refine zv_st (st' := [.int (m_X7_thrown ((m_X7_connect ((w_L_connect c w (xs (i + 1)) (xs (i + 2)) (xs (i + 3))).2.1) (xs (i + 1)) (xs (i + 2)) (xs (i + 3))).2))]) rfl ?_
  refine zv_iload (pc := 525) B 1 rfl dL_law_525 ?_
  refine zv_icmp_eq (pc := 527) (tgt := 532) B dL_law_527 rfl (fun _ => ?_) (fun h9 => absurd h1 h9)
  refine zv_iload (pc := 532) B 1 rfl dL_law_532 ?_
  refine zv_if_ne (pc := 534) (tgt := 549) B dL_law_534 rfl (fun hc => ?_) (fun hc => ?_)
  · refine zv_goto (pc := 549) (tgt := 2100) B rfl dL_law_549 ?_
    refine zv_widen (pc := 2100) (k' := k + 5) (n' := n + 28) (by omega) (by omega) ?_
    refine zv_loc (L' := [(0, .ref q0), (1, .ref (b + 0)), (2, .ref (b + 111)), (3, .ref (b + 124)), (4, .ref (b + 125)), (5, .int (nI i))]) [2, 3, 4, 5, 6, 7] rfl ?_
    exact next _ _ _ _ h3
  · refine zv_aload_n (pc := 537) B 5 rfl dL_law_537 ?_
    refine zv_iconst (pc := 538) (v := 0) B rfl dL_law_538 ?_
    refine zv_lald (pc := 539) (jj := 0) B (zat (by decide) (z124 _ _ _)) rfl (by decide) (by decide) dL_law_539 ?_
    refine zv_iload (pc := 540) B 0 rfl dL_law_540 ?_
    refine zv_i2l (pc := 542) B dL_law_542 ?_
    refine zv_lcmp (pc := 543) B dL_law_543 ?_
    refine zv_if_eq (pc := 544) (tgt := 549) B dL_law_544 rfl (fun _ => ?_) (fun h9 => absurd ((lg_cmp_eq _ _).mpr (h2 hc)) h9)
    refine zv_goto (pc := 549) (tgt := 2100) B rfl dL_law_549 ?_
    refine zv_widen (pc := 2100) (k' := k + 5) (n' := n + 28) (by omega) (by omega) ?_
    refine zv_loc (L' := [(0, .ref q0), (1, .ref (b + 0)), (2, .ref (b + 111)), (3, .ref (b + 124)), (4, .ref (b + 125)), (5, .int (nI i))]) [2, 3, 4, 5, 6, 7] rfl ?_
    exact next _ _ _ _ h3
set_option maxRecDepth 100000 in
set_option maxHeartbeats 400000 in
theorem law_disconnect {Inv : Nat → (Nat → Nat → Int32) → (Nat → Int64) → (Nat → Nat → Int32) → Prop} (hok : zInvOK Inv) (hP : zP_disconnect Inv) {p : Program} {l : Launch} {e : Env} {s : State} {m : MethodId} {args : Array Value} {below : List Frame} {meth : Method} {c9 : Code} {Q : State → Prop} {b : Nat} {E : zE} (B : zC p s m args meth c9 cL_law 9 "ToneGraphLaw" E b) (hlf : l.stackTraces = false) {q0 L : Nat} {xs : Nat → Int32} (hX : va_X q0 L xs s s.heap) (hbl : q0 < s.heap.size) (hb0 : s.heap.size = b) {k n i j : Nat} (hk : k + 5 ≤ 603072) (hn : n + 28 ≤ 7215210) (hi : i + 5 ≤ L) (hL : L < 2 ^ 31) {c : Nat → Nat → Int32} {w : Nat → Int64} {en : Nat → Nat} {ea : Nat → Nat → Int32} (hI : Inv j c w ea) (hj : j < 512) (next : ∀ (c' : Nat → Nat → Int32) (w' : Nat → Int64) (en' : Nat → Nat) (ea' : Nat → Nat → Int32), Inv (j + 1) c' w' ea' → zV p l e room_1 s m args below meth c9 Q 9 b (zH E b c' w' en' ea') 2100 [(0, .ref q0), (1, .ref (b + 0)), (2, .ref (b + 111)), (3, .ref (b + 124)), (4, .ref (b + 125)), (5, .int (nI i))] [] (k + 5) (n + 28)) : zV p l e room_1 s m args below meth c9 Q 9 b (zH E b c w en ea) 552 [(0, .ref q0), (1, .ref (b + 0)), (2, .ref (b + 111)), (3, .ref (b + 124)), (4, .ref (b + 125)), (5, .int (nI i))] [] k n := by
  obtain ⟨hg, hL9, hD, ht, hA, h0, hO, hS⟩ := hok j c w ea hI (by omega)
  refine zv_aload_n (pc := 552) B 1 rfl dL_law_552 ?_
  refine zv_aload_n (pc := 553) B 0 rfl dL_law_553 ?_
  refine zv_iload (pc := 554) B 5 rfl dL_law_554 ?_
  refine zv_iconst (pc := 556) (v := 1) B rfl dL_law_556 ?_
  refine zv_iadd (pc := 557) B dL_law_557 ?_
  refine zv_topi (y := nI (i + 1)) (nI_add i 1) ?_
  refine zv_sld (pc := 558) (jj := (i + 1)) B hX hbl hb0 rfl (by omega) hL dL_law_558 ?_
  refine zv_aload_n (pc := 559) B 0 rfl dL_law_559 ?_
  refine zv_iload (pc := 560) B 5 rfl dL_law_560 ?_
  refine zv_iconst (pc := 562) (v := 2) B rfl dL_law_562 ?_
  refine zv_iadd (pc := 563) B dL_law_563 ?_
  refine zv_topi (y := nI (i + 2)) (nI_add i 2) ?_
  refine zv_sld (pc := 564) (jj := (i + 2)) B hX hbl hb0 rfl (by omega) hL dL_law_564 ?_
  refine zv_aload_n (pc := 565) B 3 rfl dL_law_565 ?_
  refine zv_callSW (pc := 566) (As := [.ref (b + 0), .int (xs (i + 1)), .int (xs (i + 2)), .ref (b + 124)]) (rest := []) B (k_L_disconnect l E b c w en ea (xs (i + 1)) (xs (i + 2)) hg hlf) (zcwSW 4 8 B wm_L_141 ws_L_disconnect wn_L wcode_L_disconnect (by decide +kernel) ⟨(Nat.le_of_ble_eq_true rfl), (Nat.le_of_ble_eq_true rfl)⟩) rfl zid rfl (Nat.le_of_ble_eq_true rfl) dL_law_566 ⟨(show _ ≤ 603072 by omega), (show _ ≤ 7215210 by omega)⟩ (fun v9 u9 hv9 => ?_)
  obtain ⟨rfl, hgw, hFw⟩ := hv9
  refine zv_st (st' := [.int ((w_L_disconnect c w (xs (i + 1)) (xs (i + 2))).1)]) rfl ?_
  refine zv_istore (pc := 569) (L' := [(6, .int ((w_L_disconnect c w (xs (i + 1)) (xs (i + 2))).1)), (0, .ref q0), (1, .ref (b + 0)), (2, .ref (b + 111)), (3, .ref (b + 124)), (4, .ref (b + 125)), (5, .int (nI i))]) B (by decide) rfl dL_law_569 ?_
  refine zv_aload_n (pc := 571) B 3 rfl dL_law_571 ?_
  refine zv_aload_n (pc := 572) B 1 rfl dL_law_572 ?_
  refine zv_iload (pc := 573) B 6 rfl dL_law_573 ?_
  refine zv_iconst (pc := 575) (v := 1) B rfl dL_law_575 ?_
  refine zv_iadd (pc := 576) B dL_law_576 ?_
  refine zv_topi (y := nI (i + 1)) (nI_add i 1) ?_
  refine zv_sld (pc := 577) (jj := (i + 1)) B hX hbl hb0 rfl (by omega) hL dL_law_577 ?_
  refine zv_aload_n (pc := 578) B 1 rfl dL_law_578 ?_
  refine zv_iload (pc := 579) B 6 rfl dL_law_579 ?_
  refine zv_iconst (pc := 581) (v := 2) B rfl dL_law_581 ?_
  refine zv_iadd (pc := 582) B dL_law_582 ?_
  refine zv_topi (y := nI (i + 2)) (nI_add i 2) ?_
  refine zv_sld (pc := 583) (jj := (i + 2)) B hX hbl hb0 rfl (by omega) hL dL_law_583 ?_
  refine zv_callV (pc := 584) (As := [.int (xs (i + 1)), .int (xs (i + 2))]) (rest := []) B (k_X7_disconnect l E b _ _ _ _ (xs (i + 1)) (xs (i + 2)) (by rw [hFw 111 (by omega)]; exact hA.congr (hFw 114 (by omega)) (hFw 118 (by omega)) (hFw 120 (by omega))) hgw) (zcwV 2 2 B wm_L_143 wi_X7_disconnect wv_X7_disconnect wn_X7 wcode_X7_disconnect rfl (by decide +kernel) ⟨(Nat.le_of_ble_eq_true rfl), (Nat.le_of_ble_eq_true rfl)⟩) rfl (zrecv B (zat (by decide) (z111 _ _ _)) cl7) zid rfl (Nat.le_of_ble_eq_true rfl) dL_law_584 ⟨(show _ ≤ 603072 by omega), (show _ ≤ 7215210 by omega)⟩ (fun v9 u9 hv9 => ?_)
  obtain ⟨rfl, hF7, hg7⟩ := hv9
  refine zv_st (st' := [.int ((m_X7_disconnect ((w_L_disconnect c w (xs (i + 1)) (xs (i + 2))).2.1) (xs (i + 1)) (xs (i + 2))).1)]) rfl ?_
  obtain ⟨h1, h2, h3⟩ := hP j c w en ea (xs (i + 1)) (xs (i + 2)) hI hj hFw hgw hF7 hg7
  refine zv_istore (pc := 587) (L' := [(7, .int ((m_X7_disconnect ((w_L_disconnect c w (xs (i + 1)) (xs (i + 2))).2.1) (xs (i + 1)) (xs (i + 2))).1)), (6, .int ((w_L_disconnect c w (xs (i + 1)) (xs (i + 2))).1)), (0, .ref q0), (1, .ref (b + 0)), (2, .ref (b + 111)), (3, .ref (b + 124)), (4, .ref (b + 125)), (5, .int (nI i))]) B (by decide) rfl dL_law_587 ?_
  refine zv_aload_n (pc := 589) B 4 rfl dL_law_589 ?_
  refine zv_callV (pc := 590) (As := []) (rest := []) B (k_X7_thrown l E b _ _ _ _ ) (zcwV 0 0 B wm_L_123 wi_X7_thrown wv_X7_thrown wn_X7 wcode_X7_thrown rfl (by decide +kernel) ⟨(Nat.le_of_ble_eq_true rfl), (Nat.le_of_ble_eq_true rfl)⟩) rfl (zrecv B (zat (by decide) (z111 _ _ _)) cl7) zid rfl (Nat.le_of_ble_eq_true rfl) dL_law_590 ⟨(show _ ≤ 603072 by omega), (show _ ≤ 7215210 by omega)⟩ (fun v9 u9 hv9 => ?_)
  subst hv9
  refine zv_st (st' := [.int (m_X7_thrown ((m_X7_disconnect ((w_L_disconnect c w (xs (i + 1)) (xs (i + 2))).2.1) (xs (i + 1)) (xs (i + 2))).2))]) rfl ?_
  refine zv_iload (pc := 593) B 1 rfl dL_law_593 ?_
  refine zv_icmp_eq (pc := 595) (tgt := 600) B dL_law_595 rfl (fun _ => ?_) (fun h9 => absurd h1 h9)
  refine zv_iload (pc := 600) B 1 rfl dL_law_600 ?_
  refine zv_if_ne (pc := 602) (tgt := 617) B dL_law_602 rfl (fun hc => ?_) (fun hc => ?_)
  · refine zv_goto (pc := 617) (tgt := 2100) B rfl dL_law_617 ?_
    refine zv_widen (pc := 2100) (k' := k + 5) (n' := n + 28) (by omega) (by omega) ?_
    refine zv_loc (L' := [(0, .ref q0), (1, .ref (b + 0)), (2, .ref (b + 111)), (3, .ref (b + 124)), (4, .ref (b + 125)), (5, .int (nI i))]) [2, 3, 4, 5, 6, 7] rfl ?_
    exact next _ _ _ _ h3
  · refine zv_aload_n (pc := 605) B 5 rfl dL_law_605 ?_
    refine zv_iconst (pc := 606) (v := 0) B rfl dL_law_606 ?_
    refine zv_lald (pc := 607) (jj := 0) B (zat (by decide) (z124 _ _ _)) rfl (by decide) (by decide) dL_law_607 ?_
    refine zv_iload (pc := 608) B 0 rfl dL_law_608 ?_
    refine zv_i2l (pc := 610) B dL_law_610 ?_
    refine zv_lcmp (pc := 611) B dL_law_611 ?_
    refine zv_if_eq (pc := 612) (tgt := 617) B dL_law_612 rfl (fun _ => ?_) (fun h9 => absurd ((lg_cmp_eq _ _).mpr (h2 hc)) h9)
    refine zv_goto (pc := 617) (tgt := 2100) B rfl dL_law_617 ?_
    refine zv_widen (pc := 2100) (k' := k + 5) (n' := n + 28) (by omega) (by omega) ?_
    refine zv_loc (L' := [(0, .ref q0), (1, .ref (b + 0)), (2, .ref (b + 111)), (3, .ref (b + 124)), (4, .ref (b + 125)), (5, .int (nI i))]) [2, 3, 4, 5, 6, 7] rfl ?_
    exact next _ _ _ _ h3
set_option maxRecDepth 100000 in
set_option maxHeartbeats 400000 in
theorem law_setGain {Inv : Nat → (Nat → Nat → Int32) → (Nat → Int64) → (Nat → Nat → Int32) → Prop} (hok : zInvOK Inv) (hP : zP_setGain Inv) {p : Program} {l : Launch} {e : Env} {s : State} {m : MethodId} {args : Array Value} {below : List Frame} {meth : Method} {c9 : Code} {Q : State → Prop} {b : Nat} {E : zE} (B : zC p s m args meth c9 cL_law 9 "ToneGraphLaw" E b) (hlf : l.stackTraces = false) {q0 L : Nat} {xs : Nat → Int32} (hX : va_X q0 L xs s s.heap) (hbl : q0 < s.heap.size) (hb0 : s.heap.size = b) {k n i j : Nat} (hk : k + 5 ≤ 603072) (hn : n + 28 ≤ 7215210) (hi : i + 5 ≤ L) (hL : L < 2 ^ 31) {c : Nat → Nat → Int32} {w : Nat → Int64} {en : Nat → Nat} {ea : Nat → Nat → Int32} (hI : Inv j c w ea) (hj : j < 512) (next : ∀ (c' : Nat → Nat → Int32) (w' : Nat → Int64) (en' : Nat → Nat) (ea' : Nat → Nat → Int32), Inv (j + 1) c' w' ea' → zV p l e room_1 s m args below meth c9 Q 9 b (zH E b c' w' en' ea') 2100 [(0, .ref q0), (1, .ref (b + 0)), (2, .ref (b + 111)), (3, .ref (b + 124)), (4, .ref (b + 125)), (5, .int (nI i))] [] (k + 5) (n + 28)) : zV p l e room_1 s m args below meth c9 Q 9 b (zH E b c w en ea) 620 [(0, .ref q0), (1, .ref (b + 0)), (2, .ref (b + 111)), (3, .ref (b + 124)), (4, .ref (b + 125)), (5, .int (nI i))] [] k n := by
  obtain ⟨hg, hL9, hD, ht, hA, h0, hO, hS⟩ := hok j c w ea hI (by omega)
  refine zv_aload_n (pc := 620) B 1 rfl dL_law_620 ?_
  refine zv_aload_n (pc := 621) B 0 rfl dL_law_621 ?_
  refine zv_iload (pc := 622) B 5 rfl dL_law_622 ?_
  refine zv_iconst (pc := 624) (v := 1) B rfl dL_law_624 ?_
  refine zv_iadd (pc := 625) B dL_law_625 ?_
  refine zv_topi (y := nI (i + 1)) (nI_add i 1) ?_
  refine zv_sld (pc := 626) (jj := (i + 1)) B hX hbl hb0 rfl (by omega) hL dL_law_626 ?_
  refine zv_aload_n (pc := 627) B 0 rfl dL_law_627 ?_
  refine zv_iload (pc := 628) B 5 rfl dL_law_628 ?_
  refine zv_iconst (pc := 630) (v := 2) B rfl dL_law_630 ?_
  refine zv_iadd (pc := 631) B dL_law_631 ?_
  refine zv_topi (y := nI (i + 2)) (nI_add i 2) ?_
  refine zv_sld (pc := 632) (jj := (i + 2)) B hX hbl hb0 rfl (by omega) hL dL_law_632 ?_
  refine zv_aload_n (pc := 633) B 3 rfl dL_law_633 ?_
  refine zv_callSW (pc := 634) (As := [.ref (b + 0), .int (xs (i + 1)), .int (xs (i + 2)), .ref (b + 124)]) (rest := []) B (k_L_setGain l E b c w en ea (xs (i + 1)) (xs (i + 2)) hg hlf) (zcwSW 4 8 B wm_L_144 ws_L_setGain wn_L wcode_L_setGain (by decide +kernel) ⟨(Nat.le_of_ble_eq_true rfl), (Nat.le_of_ble_eq_true rfl)⟩) rfl zid rfl (Nat.le_of_ble_eq_true rfl) dL_law_634 ⟨(show _ ≤ 603072 by omega), (show _ ≤ 7215210 by omega)⟩ (fun v9 u9 hv9 => ?_)
  obtain ⟨rfl, hgw, hFw⟩ := hv9
  refine zv_st (st' := [.int ((w_L_setGain c w (xs (i + 1)) (xs (i + 2))).1)]) rfl ?_
  refine zv_istore (pc := 637) (L' := [(6, .int ((w_L_setGain c w (xs (i + 1)) (xs (i + 2))).1)), (0, .ref q0), (1, .ref (b + 0)), (2, .ref (b + 111)), (3, .ref (b + 124)), (4, .ref (b + 125)), (5, .int (nI i))]) B (by decide) rfl dL_law_637 ?_
  refine zv_aload_n (pc := 639) B 3 rfl dL_law_639 ?_
  refine zv_aload_n (pc := 640) B 1 rfl dL_law_640 ?_
  refine zv_iload (pc := 641) B 6 rfl dL_law_641 ?_
  refine zv_iconst (pc := 643) (v := 1) B rfl dL_law_643 ?_
  refine zv_iadd (pc := 644) B dL_law_644 ?_
  refine zv_topi (y := nI (i + 1)) (nI_add i 1) ?_
  refine zv_sld (pc := 645) (jj := (i + 1)) B hX hbl hb0 rfl (by omega) hL dL_law_645 ?_
  refine zv_aload_n (pc := 646) B 1 rfl dL_law_646 ?_
  refine zv_iload (pc := 647) B 6 rfl dL_law_647 ?_
  refine zv_iconst (pc := 649) (v := 2) B rfl dL_law_649 ?_
  refine zv_iadd (pc := 650) B dL_law_650 ?_
  refine zv_topi (y := nI (i + 2)) (nI_add i 2) ?_
  refine zv_sld (pc := 651) (jj := (i + 2)) B hX hbl hb0 rfl (by omega) hL dL_law_651 ?_
  refine zv_callV (pc := 652) (As := [.int (xs (i + 1)), .int (xs (i + 2))]) (rest := []) B (k_X7_setGain l E b _ _ _ _ (xs (i + 1)) (xs (i + 2)) hgw) (zcwV 2 2 B wm_L_146 wi_X7_setGain wv_X7_setGain wn_X7 wcode_X7_setGain rfl (by decide +kernel) ⟨(Nat.le_of_ble_eq_true rfl), (Nat.le_of_ble_eq_true rfl)⟩) rfl (zrecv B (zat (by decide) (z111 _ _ _)) cl7) zid rfl (Nat.le_of_ble_eq_true rfl) dL_law_652 ⟨(show _ ≤ 603072 by omega), (show _ ≤ 7215210 by omega)⟩ (fun v9 u9 hv9 => ?_)
  obtain ⟨rfl, hF7, hg7⟩ := hv9
  refine zv_st (st' := [.int ((m_X7_setGain ((w_L_setGain c w (xs (i + 1)) (xs (i + 2))).2.1) (xs (i + 1)) (xs (i + 2))).1)]) rfl ?_
  obtain ⟨h1, h2, h3⟩ := hP j c w en ea (xs (i + 1)) (xs (i + 2)) hI hj hFw hgw hF7 hg7
  refine zv_istore (pc := 655) (L' := [(7, .int ((m_X7_setGain ((w_L_setGain c w (xs (i + 1)) (xs (i + 2))).2.1) (xs (i + 1)) (xs (i + 2))).1)), (6, .int ((w_L_setGain c w (xs (i + 1)) (xs (i + 2))).1)), (0, .ref q0), (1, .ref (b + 0)), (2, .ref (b + 111)), (3, .ref (b + 124)), (4, .ref (b + 125)), (5, .int (nI i))]) B (by decide) rfl dL_law_655 ?_
  refine zv_aload_n (pc := 657) B 4 rfl dL_law_657 ?_
  refine zv_callV (pc := 658) (As := []) (rest := []) B (k_X7_thrown l E b _ _ _ _ ) (zcwV 0 0 B wm_L_123 wi_X7_thrown wv_X7_thrown wn_X7 wcode_X7_thrown rfl (by decide +kernel) ⟨(Nat.le_of_ble_eq_true rfl), (Nat.le_of_ble_eq_true rfl)⟩) rfl (zrecv B (zat (by decide) (z111 _ _ _)) cl7) zid rfl (Nat.le_of_ble_eq_true rfl) dL_law_658 ⟨(show _ ≤ 603072 by omega), (show _ ≤ 7215210 by omega)⟩ (fun v9 u9 hv9 => ?_)
  subst hv9
  refine zv_st (st' := [.int (m_X7_thrown ((m_X7_setGain ((w_L_setGain c w (xs (i + 1)) (xs (i + 2))).2.1) (xs (i + 1)) (xs (i + 2))).2))]) rfl ?_
  refine zv_iload (pc := 661) B 1 rfl dL_law_661 ?_
  refine zv_icmp_eq (pc := 663) (tgt := 668) B dL_law_663 rfl (fun _ => ?_) (fun h9 => absurd h1 h9)
  refine zv_iload (pc := 668) B 1 rfl dL_law_668 ?_
  refine zv_if_ne (pc := 670) (tgt := 685) B dL_law_670 rfl (fun hc => ?_) (fun hc => ?_)
  · refine zv_goto (pc := 685) (tgt := 2100) B rfl dL_law_685 ?_
    refine zv_widen (pc := 2100) (k' := k + 5) (n' := n + 28) (by omega) (by omega) ?_
    refine zv_loc (L' := [(0, .ref q0), (1, .ref (b + 0)), (2, .ref (b + 111)), (3, .ref (b + 124)), (4, .ref (b + 125)), (5, .int (nI i))]) [2, 3, 4, 5, 6, 7] rfl ?_
    exact next _ _ _ _ h3
  · refine zv_aload_n (pc := 673) B 5 rfl dL_law_673 ?_
    refine zv_iconst (pc := 674) (v := 0) B rfl dL_law_674 ?_
    refine zv_lald (pc := 675) (jj := 0) B (zat (by decide) (z124 _ _ _)) rfl (by decide) (by decide) dL_law_675 ?_
    refine zv_iload (pc := 676) B 0 rfl dL_law_676 ?_
    refine zv_i2l (pc := 678) B dL_law_678 ?_
    refine zv_lcmp (pc := 679) B dL_law_679 ?_
    refine zv_if_eq (pc := 680) (tgt := 685) B dL_law_680 rfl (fun _ => ?_) (fun h9 => absurd ((lg_cmp_eq _ _).mpr (h2 hc)) h9)
    refine zv_goto (pc := 685) (tgt := 2100) B rfl dL_law_685 ?_
    refine zv_widen (pc := 2100) (k' := k + 5) (n' := n + 28) (by omega) (by omega) ?_
    refine zv_loc (L' := [(0, .ref q0), (1, .ref (b + 0)), (2, .ref (b + 111)), (3, .ref (b + 124)), (4, .ref (b + 125)), (5, .int (nI i))]) [2, 3, 4, 5, 6, 7] rfl ?_
    exact next _ _ _ _ h3
set_option maxRecDepth 100000 in
set_option maxHeartbeats 400000 in
theorem law_setOutput {Inv : Nat → (Nat → Nat → Int32) → (Nat → Int64) → (Nat → Nat → Int32) → Prop} (hok : zInvOK Inv) (hP : zP_setOutput Inv) {p : Program} {l : Launch} {e : Env} {s : State} {m : MethodId} {args : Array Value} {below : List Frame} {meth : Method} {c9 : Code} {Q : State → Prop} {b : Nat} {E : zE} (B : zC p s m args meth c9 cL_law 9 "ToneGraphLaw" E b) (hlf : l.stackTraces = false) {q0 L : Nat} {xs : Nat → Int32} (hX : va_X q0 L xs s s.heap) (hbl : q0 < s.heap.size) (hb0 : s.heap.size = b) {k n i j : Nat} (hk : k + 5 ≤ 603072) (hn : n + 28 ≤ 7215210) (hi : i + 5 ≤ L) (hL : L < 2 ^ 31) {c : Nat → Nat → Int32} {w : Nat → Int64} {en : Nat → Nat} {ea : Nat → Nat → Int32} (hI : Inv j c w ea) (hj : j < 512) (next : ∀ (c' : Nat → Nat → Int32) (w' : Nat → Int64) (en' : Nat → Nat) (ea' : Nat → Nat → Int32), Inv (j + 1) c' w' ea' → zV p l e room_1 s m args below meth c9 Q 9 b (zH E b c' w' en' ea') 2100 [(0, .ref q0), (1, .ref (b + 0)), (2, .ref (b + 111)), (3, .ref (b + 124)), (4, .ref (b + 125)), (5, .int (nI i))] [] (k + 5) (n + 28)) : zV p l e room_1 s m args below meth c9 Q 9 b (zH E b c w en ea) 688 [(0, .ref q0), (1, .ref (b + 0)), (2, .ref (b + 111)), (3, .ref (b + 124)), (4, .ref (b + 125)), (5, .int (nI i))] [] k n := by
  obtain ⟨hg, hL9, hD, ht, hA, h0, hO, hS⟩ := hok j c w ea hI (by omega)
  refine zv_aload_n (pc := 688) B 1 rfl dL_law_688 ?_
  refine zv_aload_n (pc := 689) B 0 rfl dL_law_689 ?_
  refine zv_iload (pc := 690) B 5 rfl dL_law_690 ?_
  refine zv_iconst (pc := 692) (v := 1) B rfl dL_law_692 ?_
  refine zv_iadd (pc := 693) B dL_law_693 ?_
  refine zv_topi (y := nI (i + 1)) (nI_add i 1) ?_
  refine zv_sld (pc := 694) (jj := (i + 1)) B hX hbl hb0 rfl (by omega) hL dL_law_694 ?_
  refine zv_aload_n (pc := 695) B 3 rfl dL_law_695 ?_
  refine zv_callSW (pc := 696) (As := [.ref (b + 0), .int (xs (i + 1)), .ref (b + 124)]) (rest := []) B (k_L_setOutput l E b c w en ea (xs (i + 1)) hg hlf) (zcwSW 3 8 B wm_L_147 ws_L_setOutput wn_L wcode_L_setOutput (by decide +kernel) ⟨(Nat.le_of_ble_eq_true rfl), (Nat.le_of_ble_eq_true rfl)⟩) rfl zid rfl (Nat.le_of_ble_eq_true rfl) dL_law_696 ⟨(show _ ≤ 603072 by omega), (show _ ≤ 7215210 by omega)⟩ (fun v9 u9 hv9 => ?_)
  obtain ⟨rfl, hgw, hFw⟩ := hv9
  refine zv_st (st' := [.int ((w_L_setOutput c w (xs (i + 1))).1)]) rfl ?_
  refine zv_istore (pc := 699) (L' := [(6, .int ((w_L_setOutput c w (xs (i + 1))).1)), (0, .ref q0), (1, .ref (b + 0)), (2, .ref (b + 111)), (3, .ref (b + 124)), (4, .ref (b + 125)), (5, .int (nI i))]) B (by decide) rfl dL_law_699 ?_
  refine zv_aload_n (pc := 701) B 3 rfl dL_law_701 ?_
  refine zv_aload_n (pc := 702) B 1 rfl dL_law_702 ?_
  refine zv_iload (pc := 703) B 6 rfl dL_law_703 ?_
  refine zv_iconst (pc := 705) (v := 1) B rfl dL_law_705 ?_
  refine zv_iadd (pc := 706) B dL_law_706 ?_
  refine zv_topi (y := nI (i + 1)) (nI_add i 1) ?_
  refine zv_sld (pc := 707) (jj := (i + 1)) B hX hbl hb0 rfl (by omega) hL dL_law_707 ?_
  refine zv_callV (pc := 708) (As := [.int (xs (i + 1))]) (rest := []) B (k_X7_setOutput l E b _ _ _ _ (xs (i + 1)) hgw) (zcwV 1 2 B wm_L_149 wi_X7_setOutput wv_X7_setOutput wn_X7 wcode_X7_setOutput rfl (by decide +kernel) ⟨(Nat.le_of_ble_eq_true rfl), (Nat.le_of_ble_eq_true rfl)⟩) rfl (zrecv B (zat (by decide) (z111 _ _ _)) cl7) zid rfl (Nat.le_of_ble_eq_true rfl) dL_law_708 ⟨(show _ ≤ 603072 by omega), (show _ ≤ 7215210 by omega)⟩ (fun v9 u9 hv9 => ?_)
  obtain ⟨rfl, hF7, hg7⟩ := hv9
  refine zv_st (st' := [.int ((m_X7_setOutput ((w_L_setOutput c w (xs (i + 1))).2.1) (xs (i + 1))).1)]) rfl ?_
  obtain ⟨h1, h2, h3⟩ := hP j c w en ea (xs (i + 1)) hI hj hFw hgw hF7 hg7
  refine zv_istore (pc := 711) (L' := [(7, .int ((m_X7_setOutput ((w_L_setOutput c w (xs (i + 1))).2.1) (xs (i + 1))).1)), (6, .int ((w_L_setOutput c w (xs (i + 1))).1)), (0, .ref q0), (1, .ref (b + 0)), (2, .ref (b + 111)), (3, .ref (b + 124)), (4, .ref (b + 125)), (5, .int (nI i))]) B (by decide) rfl dL_law_711 ?_
  refine zv_aload_n (pc := 713) B 4 rfl dL_law_713 ?_
  refine zv_callV (pc := 714) (As := []) (rest := []) B (k_X7_thrown l E b _ _ _ _ ) (zcwV 0 0 B wm_L_123 wi_X7_thrown wv_X7_thrown wn_X7 wcode_X7_thrown rfl (by decide +kernel) ⟨(Nat.le_of_ble_eq_true rfl), (Nat.le_of_ble_eq_true rfl)⟩) rfl (zrecv B (zat (by decide) (z111 _ _ _)) cl7) zid rfl (Nat.le_of_ble_eq_true rfl) dL_law_714 ⟨(show _ ≤ 603072 by omega), (show _ ≤ 7215210 by omega)⟩ (fun v9 u9 hv9 => ?_)
  subst hv9
  refine zv_st (st' := [.int (m_X7_thrown ((m_X7_setOutput ((w_L_setOutput c w (xs (i + 1))).2.1) (xs (i + 1))).2))]) rfl ?_
  refine zv_iload (pc := 717) B 1 rfl dL_law_717 ?_
  refine zv_icmp_eq (pc := 719) (tgt := 724) B dL_law_719 rfl (fun _ => ?_) (fun h9 => absurd h1 h9)
  refine zv_iload (pc := 724) B 1 rfl dL_law_724 ?_
  refine zv_if_ne (pc := 726) (tgt := 741) B dL_law_726 rfl (fun hc => ?_) (fun hc => ?_)
  · refine zv_goto (pc := 741) (tgt := 2100) B rfl dL_law_741 ?_
    refine zv_widen (pc := 2100) (k' := k + 5) (n' := n + 28) (by omega) (by omega) ?_
    refine zv_loc (L' := [(0, .ref q0), (1, .ref (b + 0)), (2, .ref (b + 111)), (3, .ref (b + 124)), (4, .ref (b + 125)), (5, .int (nI i))]) [2, 3, 4, 5, 6, 7] rfl ?_
    exact next _ _ _ _ h3
  · refine zv_aload_n (pc := 729) B 5 rfl dL_law_729 ?_
    refine zv_iconst (pc := 730) (v := 0) B rfl dL_law_730 ?_
    refine zv_lald (pc := 731) (jj := 0) B (zat (by decide) (z124 _ _ _)) rfl (by decide) (by decide) dL_law_731 ?_
    refine zv_iload (pc := 732) B 0 rfl dL_law_732 ?_
    refine zv_i2l (pc := 734) B dL_law_734 ?_
    refine zv_lcmp (pc := 735) B dL_law_735 ?_
    refine zv_if_eq (pc := 736) (tgt := 741) B dL_law_736 rfl (fun _ => ?_) (fun h9 => absurd ((lg_cmp_eq _ _).mpr (h2 hc)) h9)
    refine zv_goto (pc := 741) (tgt := 2100) B rfl dL_law_741 ?_
    refine zv_widen (pc := 2100) (k' := k + 5) (n' := n + 28) (by omega) (by omega) ?_
    refine zv_loc (L' := [(0, .ref q0), (1, .ref (b + 0)), (2, .ref (b + 111)), (3, .ref (b + 124)), (4, .ref (b + 125)), (5, .int (nI i))]) [2, 3, 4, 5, 6, 7] rfl ?_
    exact next _ _ _ _ h3
set_option maxRecDepth 100000 in
set_option maxHeartbeats 400000 in
theorem law_nodes {Inv : Nat → (Nat → Nat → Int32) → (Nat → Int64) → (Nat → Nat → Int32) → Prop} (hok : zInvOK Inv) (hP : zP_nodes Inv) {p : Program} {l : Launch} {e : Env} {s : State} {m : MethodId} {args : Array Value} {below : List Frame} {meth : Method} {c9 : Code} {Q : State → Prop} {b : Nat} {E : zE} (B : zC p s m args meth c9 cL_law 9 "ToneGraphLaw" E b) (hlf : l.stackTraces = false) {q0 L : Nat} {xs : Nat → Int32} (hX : va_X q0 L xs s s.heap) (hbl : q0 < s.heap.size) (hb0 : s.heap.size = b) {k n i j : Nat} (hk : k + 5 ≤ 603072) (hn : n + 28 ≤ 7215210) (hi : i + 5 ≤ L) (hL : L < 2 ^ 31) {c : Nat → Nat → Int32} {w : Nat → Int64} {en : Nat → Nat} {ea : Nat → Nat → Int32} (hI : Inv j c w ea) (hj : j < 512) (next : ∀ (c' : Nat → Nat → Int32) (w' : Nat → Int64) (en' : Nat → Nat) (ea' : Nat → Nat → Int32), Inv (j + 1) c' w' ea' → zV p l e room_1 s m args below meth c9 Q 9 b (zH E b c' w' en' ea') 2100 [(0, .ref q0), (1, .ref (b + 0)), (2, .ref (b + 111)), (3, .ref (b + 124)), (4, .ref (b + 125)), (5, .int (nI i))] [] (k + 5) (n + 28)) : zV p l e room_1 s m args below meth c9 Q 9 b (zH E b c w en ea) 744 [(0, .ref q0), (1, .ref (b + 0)), (2, .ref (b + 111)), (3, .ref (b + 124)), (4, .ref (b + 125)), (5, .int (nI i))] [] k n := by
  obtain ⟨hg, hL9, hD, ht, hA, h0, hO, hS⟩ := hok j c w ea hI (by omega)
  refine zv_aload_n (pc := 744) B 1 rfl dL_law_744 ?_
  refine zv_callV (pc := 745) (As := []) (rest := []) B (k_X6_nodes l E b _ _ _ _  hg) (zcwV 0 0 B wm_L_150 wi_X6_nodes wv_X6_nodes wn_X6 wcode_X6_nodes rfl (by decide +kernel) ⟨(Nat.le_of_ble_eq_true rfl), (Nat.le_of_ble_eq_true rfl)⟩) rfl (zrecv B (zat (by decide) (z0 _ _ _)) cl6) zid rfl (Nat.le_of_ble_eq_true rfl) dL_law_745 ⟨(show _ ≤ 603072 by omega), (show _ ≤ 7215210 by omega)⟩ (fun v9 u9 hv9 => ?_)
  subst hv9
  refine zv_st (st' := [.int (m_X6_nodes c)]) rfl ?_
  refine zv_aload_n (pc := 748) B 2 rfl dL_law_748 ?_
  refine zv_callV (pc := 749) (As := []) (rest := [.int (m_X6_nodes c)]) B (k_X7_nodes l E b _ _ _ _ hg) (zcwV 0 1 B wm_L_153 wi_X7_nodes wv_X7_nodes wn_X7 wcode_X7_nodes rfl (by decide +kernel) ⟨(Nat.le_of_ble_eq_true rfl), (Nat.le_of_ble_eq_true rfl)⟩) rfl (zrecv B (zat (by decide) (z111 _ _ _)) cl7) zid rfl (Nat.le_of_ble_eq_true rfl) dL_law_749 ⟨(show _ ≤ 603072 by omega), (show _ ≤ 7215210 by omega)⟩ (fun v9 u9 hv9 => ?_)
  obtain ⟨rfl, hF7, hg7⟩ := hv9
  refine zv_st (st' := [.int ((m_X7_nodes c).1), .int (m_X6_nodes c)]) rfl ?_
  obtain ⟨h1, h3⟩ := hP j c w en ea hI hj hF7 hg7
  refine zv_icmp_eq (pc := 752) (tgt := 2100) B dL_law_752 rfl (fun _ => ?_) (fun h9 => absurd h1 h9)
  refine zv_widen (pc := 2100) (k' := k + 5) (n' := n + 28) (by omega) (by omega) ?_
  exact next _ _ _ _ h3
set_option maxRecDepth 100000 in
set_option maxHeartbeats 400000 in
theorem law_kindOf {Inv : Nat → (Nat → Nat → Int32) → (Nat → Int64) → (Nat → Nat → Int32) → Prop} (hok : zInvOK Inv) (hP : zP_kindOf Inv) {p : Program} {l : Launch} {e : Env} {s : State} {m : MethodId} {args : Array Value} {below : List Frame} {meth : Method} {c9 : Code} {Q : State → Prop} {b : Nat} {E : zE} (B : zC p s m args meth c9 cL_law 9 "ToneGraphLaw" E b) (hlf : l.stackTraces = false) {q0 L : Nat} {xs : Nat → Int32} (hX : va_X q0 L xs s s.heap) (hbl : q0 < s.heap.size) (hb0 : s.heap.size = b) {k n i j : Nat} (hk : k + 5 ≤ 603072) (hn : n + 28 ≤ 7215210) (hi : i + 5 ≤ L) (hL : L < 2 ^ 31) {c : Nat → Nat → Int32} {w : Nat → Int64} {en : Nat → Nat} {ea : Nat → Nat → Int32} (hI : Inv j c w ea) (hj : j < 512) (next : ∀ (c' : Nat → Nat → Int32) (w' : Nat → Int64) (en' : Nat → Nat) (ea' : Nat → Nat → Int32), Inv (j + 1) c' w' ea' → zV p l e room_1 s m args below meth c9 Q 9 b (zH E b c' w' en' ea') 2100 [(0, .ref q0), (1, .ref (b + 0)), (2, .ref (b + 111)), (3, .ref (b + 124)), (4, .ref (b + 125)), (5, .int (nI i))] [] (k + 5) (n + 28)) : zV p l e room_1 s m args below meth c9 Q 9 b (zH E b c w en ea) 757 [(0, .ref q0), (1, .ref (b + 0)), (2, .ref (b + 111)), (3, .ref (b + 124)), (4, .ref (b + 125)), (5, .int (nI i))] [] k n := by
  obtain ⟨hg, hL9, hD, ht, hA, h0, hO, hS⟩ := hok j c w ea hI (by omega)
  refine zv_aload_n (pc := 757) B 1 rfl dL_law_757 ?_
  refine zv_aload_n (pc := 758) B 0 rfl dL_law_758 ?_
  refine zv_iload (pc := 759) B 5 rfl dL_law_759 ?_
  refine zv_iconst (pc := 761) (v := 1) B rfl dL_law_761 ?_
  refine zv_iadd (pc := 762) B dL_law_762 ?_
  refine zv_topi (y := nI (i + 1)) (nI_add i 1) ?_
  refine zv_sld (pc := 763) (jj := (i + 1)) B hX hbl hb0 rfl (by omega) hL dL_law_763 ?_
  refine zv_aload_n (pc := 764) B 3 rfl dL_law_764 ?_
  refine zv_callSW (pc := 765) (As := [.ref (b + 0), .int (xs (i + 1)), .ref (b + 124)]) (rest := []) B (k_L_kindOf l E b c w en ea (xs (i + 1)) hg hlf) (zcwSW 3 8 B wm_L_154 ws_L_kindOf wn_L wcode_L_kindOf (by decide +kernel) ⟨(Nat.le_of_ble_eq_true rfl), (Nat.le_of_ble_eq_true rfl)⟩) rfl zid rfl (Nat.le_of_ble_eq_true rfl) dL_law_765 ⟨(show _ ≤ 603072 by omega), (show _ ≤ 7215210 by omega)⟩ (fun v9 u9 hv9 => ?_)
  obtain ⟨rfl, hgw, hFw⟩ := hv9
  refine zv_st (st' := [.int ((w_L_kindOf c w (xs (i + 1))).1)]) rfl ?_
  refine zv_istore (pc := 768) (L' := [(6, .int ((w_L_kindOf c w (xs (i + 1))).1)), (0, .ref q0), (1, .ref (b + 0)), (2, .ref (b + 111)), (3, .ref (b + 124)), (4, .ref (b + 125)), (5, .int (nI i))]) B (by decide) rfl dL_law_768 ?_
  refine zv_aload_n (pc := 770) B 3 rfl dL_law_770 ?_
  refine zv_aload_n (pc := 771) B 1 rfl dL_law_771 ?_
  refine zv_iload (pc := 772) B 6 rfl dL_law_772 ?_
  refine zv_iconst (pc := 774) (v := 1) B rfl dL_law_774 ?_
  refine zv_iadd (pc := 775) B dL_law_775 ?_
  refine zv_topi (y := nI (i + 1)) (nI_add i 1) ?_
  refine zv_sld (pc := 776) (jj := (i + 1)) B hX hbl hb0 rfl (by omega) hL dL_law_776 ?_
  refine zv_callV (pc := 777) (As := [.int (xs (i + 1))]) (rest := []) B (k_X7_kindOf l E b _ _ _ _ (xs (i + 1)) hgw) (zcwV 1 2 B wm_L_156 wi_X7_kindOf wv_X7_kindOf wn_X7 wcode_X7_kindOf rfl (by decide +kernel) ⟨(Nat.le_of_ble_eq_true rfl), (Nat.le_of_ble_eq_true rfl)⟩) rfl (zrecv B (zat (by decide) (z111 _ _ _)) cl7) zid rfl (Nat.le_of_ble_eq_true rfl) dL_law_777 ⟨(show _ ≤ 603072 by omega), (show _ ≤ 7215210 by omega)⟩ (fun v9 u9 hv9 => ?_)
  obtain ⟨rfl, hF7, hg7⟩ := hv9
  refine zv_st (st' := [.int ((m_X7_kindOf ((w_L_kindOf c w (xs (i + 1))).2.1) (xs (i + 1))).1)]) rfl ?_
  obtain ⟨h1, h2, h3⟩ := hP j c w en ea (xs (i + 1)) hI hj hFw hgw hF7 hg7
  refine zv_istore (pc := 780) (L' := [(7, .int ((m_X7_kindOf ((w_L_kindOf c w (xs (i + 1))).2.1) (xs (i + 1))).1)), (6, .int ((w_L_kindOf c w (xs (i + 1))).1)), (0, .ref q0), (1, .ref (b + 0)), (2, .ref (b + 111)), (3, .ref (b + 124)), (4, .ref (b + 125)), (5, .int (nI i))]) B (by decide) rfl dL_law_780 ?_
  refine zv_aload_n (pc := 782) B 4 rfl dL_law_782 ?_
  refine zv_callV (pc := 783) (As := []) (rest := []) B (k_X7_thrown l E b _ _ _ _ ) (zcwV 0 0 B wm_L_123 wi_X7_thrown wv_X7_thrown wn_X7 wcode_X7_thrown rfl (by decide +kernel) ⟨(Nat.le_of_ble_eq_true rfl), (Nat.le_of_ble_eq_true rfl)⟩) rfl (zrecv B (zat (by decide) (z111 _ _ _)) cl7) zid rfl (Nat.le_of_ble_eq_true rfl) dL_law_783 ⟨(show _ ≤ 603072 by omega), (show _ ≤ 7215210 by omega)⟩ (fun v9 u9 hv9 => ?_)
  subst hv9
  refine zv_st (st' := [.int (m_X7_thrown ((m_X7_kindOf ((w_L_kindOf c w (xs (i + 1))).2.1) (xs (i + 1))).2))]) rfl ?_
  refine zv_iload (pc := 786) B 1 rfl dL_law_786 ?_
  refine zv_icmp_eq (pc := 788) (tgt := 793) B dL_law_788 rfl (fun _ => ?_) (fun h9 => absurd h1 h9)
  refine zv_iload (pc := 793) B 1 rfl dL_law_793 ?_
  refine zv_if_ne (pc := 795) (tgt := 810) B dL_law_795 rfl (fun hc => ?_) (fun hc => ?_)
  · refine zv_goto (pc := 810) (tgt := 2100) B rfl dL_law_810 ?_
    refine zv_widen (pc := 2100) (k' := k + 5) (n' := n + 28) (by omega) (by omega) ?_
    refine zv_loc (L' := [(0, .ref q0), (1, .ref (b + 0)), (2, .ref (b + 111)), (3, .ref (b + 124)), (4, .ref (b + 125)), (5, .int (nI i))]) [2, 3, 4, 5, 6, 7] rfl ?_
    exact next _ _ _ _ h3
  · refine zv_aload_n (pc := 798) B 5 rfl dL_law_798 ?_
    refine zv_iconst (pc := 799) (v := 0) B rfl dL_law_799 ?_
    refine zv_lald (pc := 800) (jj := 0) B (zat (by decide) (z124 _ _ _)) rfl (by decide) (by decide) dL_law_800 ?_
    refine zv_iload (pc := 801) B 0 rfl dL_law_801 ?_
    refine zv_i2l (pc := 803) B dL_law_803 ?_
    refine zv_lcmp (pc := 804) B dL_law_804 ?_
    refine zv_if_eq (pc := 805) (tgt := 810) B dL_law_805 rfl (fun _ => ?_) (fun h9 => absurd ((lg_cmp_eq _ _).mpr (h2 hc)) h9)
    refine zv_goto (pc := 810) (tgt := 2100) B rfl dL_law_810 ?_
    refine zv_widen (pc := 2100) (k' := k + 5) (n' := n + 28) (by omega) (by omega) ?_
    refine zv_loc (L' := [(0, .ref q0), (1, .ref (b + 0)), (2, .ref (b + 111)), (3, .ref (b + 124)), (4, .ref (b + 125)), (5, .int (nI i))]) [2, 3, 4, 5, 6, 7] rfl ?_
    exact next _ _ _ _ h3
set_option maxRecDepth 100000 in
set_option maxHeartbeats 400000 in
theorem law_wires {Inv : Nat → (Nat → Nat → Int32) → (Nat → Int64) → (Nat → Nat → Int32) → Prop} (hok : zInvOK Inv) (hP : zP_wires Inv) {p : Program} {l : Launch} {e : Env} {s : State} {m : MethodId} {args : Array Value} {below : List Frame} {meth : Method} {c9 : Code} {Q : State → Prop} {b : Nat} {E : zE} (B : zC p s m args meth c9 cL_law 9 "ToneGraphLaw" E b) (hlf : l.stackTraces = false) {q0 L : Nat} {xs : Nat → Int32} (hX : va_X q0 L xs s s.heap) (hbl : q0 < s.heap.size) (hb0 : s.heap.size = b) {k n i j : Nat} (hk : k + 5 ≤ 603072) (hn : n + 28 ≤ 7215210) (hi : i + 5 ≤ L) (hL : L < 2 ^ 31) {c : Nat → Nat → Int32} {w : Nat → Int64} {en : Nat → Nat} {ea : Nat → Nat → Int32} (hI : Inv j c w ea) (hj : j < 512) (next : ∀ (c' : Nat → Nat → Int32) (w' : Nat → Int64) (en' : Nat → Nat) (ea' : Nat → Nat → Int32), Inv (j + 1) c' w' ea' → zV p l e room_1 s m args below meth c9 Q 9 b (zH E b c' w' en' ea') 2100 [(0, .ref q0), (1, .ref (b + 0)), (2, .ref (b + 111)), (3, .ref (b + 124)), (4, .ref (b + 125)), (5, .int (nI i))] [] (k + 5) (n + 28)) : zV p l e room_1 s m args below meth c9 Q 9 b (zH E b c w en ea) 813 [(0, .ref q0), (1, .ref (b + 0)), (2, .ref (b + 111)), (3, .ref (b + 124)), (4, .ref (b + 125)), (5, .int (nI i))] [] k n := by
  obtain ⟨hg, hL9, hD, ht, hA, h0, hO, hS⟩ := hok j c w ea hI (by omega)
  refine zv_aload_n (pc := 813) B 1 rfl dL_law_813 ?_
  refine zv_aload_n (pc := 814) B 0 rfl dL_law_814 ?_
  refine zv_iload (pc := 815) B 5 rfl dL_law_815 ?_
  refine zv_iconst (pc := 817) (v := 1) B rfl dL_law_817 ?_
  refine zv_iadd (pc := 818) B dL_law_818 ?_
  refine zv_topi (y := nI (i + 1)) (nI_add i 1) ?_
  refine zv_sld (pc := 819) (jj := (i + 1)) B hX hbl hb0 rfl (by omega) hL dL_law_819 ?_
  refine zv_aload_n (pc := 820) B 3 rfl dL_law_820 ?_
  refine zv_callSW (pc := 821) (As := [.ref (b + 0), .int (xs (i + 1)), .ref (b + 124)]) (rest := []) B (k_L_wires l E b c w en ea (xs (i + 1)) hg hlf) (zcwSW 3 8 B wm_L_157 ws_L_wires wn_L wcode_L_wires (by decide +kernel) ⟨(Nat.le_of_ble_eq_true rfl), (Nat.le_of_ble_eq_true rfl)⟩) rfl zid rfl (Nat.le_of_ble_eq_true rfl) dL_law_821 ⟨(show _ ≤ 603072 by omega), (show _ ≤ 7215210 by omega)⟩ (fun v9 u9 hv9 => ?_)
  obtain ⟨rfl, hgw, hFw⟩ := hv9
  refine zv_st (st' := [.int ((w_L_wires c w (xs (i + 1))).1)]) rfl ?_
  refine zv_istore (pc := 824) (L' := [(6, .int ((w_L_wires c w (xs (i + 1))).1)), (0, .ref q0), (1, .ref (b + 0)), (2, .ref (b + 111)), (3, .ref (b + 124)), (4, .ref (b + 125)), (5, .int (nI i))]) B (by decide) rfl dL_law_824 ?_
  refine zv_aload_n (pc := 826) B 3 rfl dL_law_826 ?_
  refine zv_aload_n (pc := 827) B 1 rfl dL_law_827 ?_
  refine zv_iload (pc := 828) B 6 rfl dL_law_828 ?_
  refine zv_iconst (pc := 830) (v := 1) B rfl dL_law_830 ?_
  refine zv_iadd (pc := 831) B dL_law_831 ?_
  refine zv_topi (y := nI (i + 1)) (nI_add i 1) ?_
  refine zv_sld (pc := 832) (jj := (i + 1)) B hX hbl hb0 rfl (by omega) hL dL_law_832 ?_
  refine zv_callV (pc := 833) (As := [.int (xs (i + 1))]) (rest := []) B (k_X7_wires l E b _ _ _ _ (xs (i + 1)) hgw) (zcwV 1 2 B wm_L_159 wi_X7_wires wv_X7_wires wn_X7 wcode_X7_wires rfl (by decide +kernel) ⟨(Nat.le_of_ble_eq_true rfl), (Nat.le_of_ble_eq_true rfl)⟩) rfl (zrecv B (zat (by decide) (z111 _ _ _)) cl7) zid rfl (Nat.le_of_ble_eq_true rfl) dL_law_833 ⟨(show _ ≤ 603072 by omega), (show _ ≤ 7215210 by omega)⟩ (fun v9 u9 hv9 => ?_)
  obtain ⟨rfl, hF7, hg7⟩ := hv9
  refine zv_st (st' := [.int ((m_X7_wires ((w_L_wires c w (xs (i + 1))).2.1) (xs (i + 1))).1)]) rfl ?_
  obtain ⟨h1, h2, h3⟩ := hP j c w en ea (xs (i + 1)) hI hj hFw hgw hF7 hg7
  refine zv_istore (pc := 836) (L' := [(7, .int ((m_X7_wires ((w_L_wires c w (xs (i + 1))).2.1) (xs (i + 1))).1)), (6, .int ((w_L_wires c w (xs (i + 1))).1)), (0, .ref q0), (1, .ref (b + 0)), (2, .ref (b + 111)), (3, .ref (b + 124)), (4, .ref (b + 125)), (5, .int (nI i))]) B (by decide) rfl dL_law_836 ?_
  refine zv_aload_n (pc := 838) B 4 rfl dL_law_838 ?_
  refine zv_callV (pc := 839) (As := []) (rest := []) B (k_X7_thrown l E b _ _ _ _ ) (zcwV 0 0 B wm_L_123 wi_X7_thrown wv_X7_thrown wn_X7 wcode_X7_thrown rfl (by decide +kernel) ⟨(Nat.le_of_ble_eq_true rfl), (Nat.le_of_ble_eq_true rfl)⟩) rfl (zrecv B (zat (by decide) (z111 _ _ _)) cl7) zid rfl (Nat.le_of_ble_eq_true rfl) dL_law_839 ⟨(show _ ≤ 603072 by omega), (show _ ≤ 7215210 by omega)⟩ (fun v9 u9 hv9 => ?_)
  subst hv9
  refine zv_st (st' := [.int (m_X7_thrown ((m_X7_wires ((w_L_wires c w (xs (i + 1))).2.1) (xs (i + 1))).2))]) rfl ?_
  refine zv_iload (pc := 842) B 1 rfl dL_law_842 ?_
  refine zv_icmp_eq (pc := 844) (tgt := 849) B dL_law_844 rfl (fun _ => ?_) (fun h9 => absurd h1 h9)
  refine zv_iload (pc := 849) B 1 rfl dL_law_849 ?_
  refine zv_if_ne (pc := 851) (tgt := 866) B dL_law_851 rfl (fun hc => ?_) (fun hc => ?_)
  · refine zv_goto (pc := 866) (tgt := 2100) B rfl dL_law_866 ?_
    refine zv_widen (pc := 2100) (k' := k + 5) (n' := n + 28) (by omega) (by omega) ?_
    refine zv_loc (L' := [(0, .ref q0), (1, .ref (b + 0)), (2, .ref (b + 111)), (3, .ref (b + 124)), (4, .ref (b + 125)), (5, .int (nI i))]) [2, 3, 4, 5, 6, 7] rfl ?_
    exact next _ _ _ _ h3
  · refine zv_aload_n (pc := 854) B 5 rfl dL_law_854 ?_
    refine zv_iconst (pc := 855) (v := 0) B rfl dL_law_855 ?_
    refine zv_lald (pc := 856) (jj := 0) B (zat (by decide) (z124 _ _ _)) rfl (by decide) (by decide) dL_law_856 ?_
    refine zv_iload (pc := 857) B 0 rfl dL_law_857 ?_
    refine zv_i2l (pc := 859) B dL_law_859 ?_
    refine zv_lcmp (pc := 860) B dL_law_860 ?_
    refine zv_if_eq (pc := 861) (tgt := 866) B dL_law_861 rfl (fun _ => ?_) (fun h9 => absurd ((lg_cmp_eq _ _).mpr (h2 hc)) h9)
    refine zv_goto (pc := 866) (tgt := 2100) B rfl dL_law_866 ?_
    refine zv_widen (pc := 2100) (k' := k + 5) (n' := n + 28) (by omega) (by omega) ?_
    refine zv_loc (L' := [(0, .ref q0), (1, .ref (b + 0)), (2, .ref (b + 111)), (3, .ref (b + 124)), (4, .ref (b + 125)), (5, .int (nI i))]) [2, 3, 4, 5, 6, 7] rfl ?_
    exact next _ _ _ _ h3
set_option maxRecDepth 100000 in
set_option maxHeartbeats 400000 in
theorem law_wireFrom {Inv : Nat → (Nat → Nat → Int32) → (Nat → Int64) → (Nat → Nat → Int32) → Prop} (hok : zInvOK Inv) (hP : zP_wireFrom Inv) {p : Program} {l : Launch} {e : Env} {s : State} {m : MethodId} {args : Array Value} {below : List Frame} {meth : Method} {c9 : Code} {Q : State → Prop} {b : Nat} {E : zE} (B : zC p s m args meth c9 cL_law 9 "ToneGraphLaw" E b) (hlf : l.stackTraces = false) {q0 L : Nat} {xs : Nat → Int32} (hX : va_X q0 L xs s s.heap) (hbl : q0 < s.heap.size) (hb0 : s.heap.size = b) {k n i j : Nat} (hk : k + 5 ≤ 603072) (hn : n + 28 ≤ 7215210) (hi : i + 5 ≤ L) (hL : L < 2 ^ 31) {c : Nat → Nat → Int32} {w : Nat → Int64} {en : Nat → Nat} {ea : Nat → Nat → Int32} (hI : Inv j c w ea) (hj : j < 512) (next : ∀ (c' : Nat → Nat → Int32) (w' : Nat → Int64) (en' : Nat → Nat) (ea' : Nat → Nat → Int32), Inv (j + 1) c' w' ea' → zV p l e room_1 s m args below meth c9 Q 9 b (zH E b c' w' en' ea') 2100 [(0, .ref q0), (1, .ref (b + 0)), (2, .ref (b + 111)), (3, .ref (b + 124)), (4, .ref (b + 125)), (5, .int (nI i))] [] (k + 5) (n + 28)) : zV p l e room_1 s m args below meth c9 Q 9 b (zH E b c w en ea) 869 [(0, .ref q0), (1, .ref (b + 0)), (2, .ref (b + 111)), (3, .ref (b + 124)), (4, .ref (b + 125)), (5, .int (nI i))] [] k n := by
  obtain ⟨hg, hL9, hD, ht, hA, h0, hO, hS⟩ := hok j c w ea hI (by omega)
  refine zv_aload_n (pc := 869) B 1 rfl dL_law_869 ?_
  refine zv_aload_n (pc := 870) B 0 rfl dL_law_870 ?_
  refine zv_iload (pc := 871) B 5 rfl dL_law_871 ?_
  refine zv_iconst (pc := 873) (v := 1) B rfl dL_law_873 ?_
  refine zv_iadd (pc := 874) B dL_law_874 ?_
  refine zv_topi (y := nI (i + 1)) (nI_add i 1) ?_
  refine zv_sld (pc := 875) (jj := (i + 1)) B hX hbl hb0 rfl (by omega) hL dL_law_875 ?_
  refine zv_aload_n (pc := 876) B 0 rfl dL_law_876 ?_
  refine zv_iload (pc := 877) B 5 rfl dL_law_877 ?_
  refine zv_iconst (pc := 879) (v := 2) B rfl dL_law_879 ?_
  refine zv_iadd (pc := 880) B dL_law_880 ?_
  refine zv_topi (y := nI (i + 2)) (nI_add i 2) ?_
  refine zv_sld (pc := 881) (jj := (i + 2)) B hX hbl hb0 rfl (by omega) hL dL_law_881 ?_
  refine zv_aload_n (pc := 882) B 3 rfl dL_law_882 ?_
  refine zv_callSW (pc := 883) (As := [.ref (b + 0), .int (xs (i + 1)), .int (xs (i + 2)), .ref (b + 124)]) (rest := []) B (k_L_wireFrom l E b c w en ea (xs (i + 1)) (xs (i + 2)) hg hlf) (zcwSW 4 8 B wm_L_160 ws_L_wireFrom wn_L wcode_L_wireFrom (by decide +kernel) ⟨(Nat.le_of_ble_eq_true rfl), (Nat.le_of_ble_eq_true rfl)⟩) rfl zid rfl (Nat.le_of_ble_eq_true rfl) dL_law_883 ⟨(show _ ≤ 603072 by omega), (show _ ≤ 7215210 by omega)⟩ (fun v9 u9 hv9 => ?_)
  obtain ⟨rfl, hgw, hFw⟩ := hv9
  refine zv_st (st' := [.int ((w_L_wireFrom c w (xs (i + 1)) (xs (i + 2))).1)]) rfl ?_
  refine zv_istore (pc := 886) (L' := [(6, .int ((w_L_wireFrom c w (xs (i + 1)) (xs (i + 2))).1)), (0, .ref q0), (1, .ref (b + 0)), (2, .ref (b + 111)), (3, .ref (b + 124)), (4, .ref (b + 125)), (5, .int (nI i))]) B (by decide) rfl dL_law_886 ?_
  refine zv_aload_n (pc := 888) B 3 rfl dL_law_888 ?_
  refine zv_aload_n (pc := 889) B 1 rfl dL_law_889 ?_
  refine zv_iload (pc := 890) B 6 rfl dL_law_890 ?_
  refine zv_iconst (pc := 892) (v := 1) B rfl dL_law_892 ?_
  refine zv_iadd (pc := 893) B dL_law_893 ?_
  refine zv_topi (y := nI (i + 1)) (nI_add i 1) ?_
  refine zv_sld (pc := 894) (jj := (i + 1)) B hX hbl hb0 rfl (by omega) hL dL_law_894 ?_
  refine zv_aload_n (pc := 895) B 1 rfl dL_law_895 ?_
  refine zv_iload (pc := 896) B 6 rfl dL_law_896 ?_
  refine zv_iconst (pc := 898) (v := 2) B rfl dL_law_898 ?_
  refine zv_iadd (pc := 899) B dL_law_899 ?_
  refine zv_topi (y := nI (i + 2)) (nI_add i 2) ?_
  refine zv_sld (pc := 900) (jj := (i + 2)) B hX hbl hb0 rfl (by omega) hL dL_law_900 ?_
  refine zv_callV (pc := 901) (As := [.int (xs (i + 1)), .int (xs (i + 2))]) (rest := []) B (k_X7_wireFrom l E b _ _ _ _ (xs (i + 1)) (xs (i + 2)) hgw) (zcwV 2 3 B wm_L_162 wi_X7_wireFrom wv_X7_wireFrom wn_X7 wcode_X7_wireFrom rfl (by decide +kernel) ⟨(Nat.le_of_ble_eq_true rfl), (Nat.le_of_ble_eq_true rfl)⟩) rfl (zrecv B (zat (by decide) (z111 _ _ _)) cl7) zid rfl (Nat.le_of_ble_eq_true rfl) dL_law_901 ⟨(show _ ≤ 603072 by omega), (show _ ≤ 7215210 by omega)⟩ (fun v9 u9 hv9 => ?_)
  obtain ⟨rfl, hF7, hg7⟩ := hv9
  refine zv_st (st' := [.int ((m_X7_wireFrom ((w_L_wireFrom c w (xs (i + 1)) (xs (i + 2))).2.1) (xs (i + 1)) (xs (i + 2))).1)]) rfl ?_
  obtain ⟨h1, h2, h3⟩ := hP j c w en ea (xs (i + 1)) (xs (i + 2)) hI hj hFw hgw hF7 hg7
  refine zv_istore (pc := 904) (L' := [(7, .int ((m_X7_wireFrom ((w_L_wireFrom c w (xs (i + 1)) (xs (i + 2))).2.1) (xs (i + 1)) (xs (i + 2))).1)), (6, .int ((w_L_wireFrom c w (xs (i + 1)) (xs (i + 2))).1)), (0, .ref q0), (1, .ref (b + 0)), (2, .ref (b + 111)), (3, .ref (b + 124)), (4, .ref (b + 125)), (5, .int (nI i))]) B (by decide) rfl dL_law_904 ?_
  refine zv_aload_n (pc := 906) B 4 rfl dL_law_906 ?_
  refine zv_callV (pc := 907) (As := []) (rest := []) B (k_X7_thrown l E b _ _ _ _ ) (zcwV 0 0 B wm_L_123 wi_X7_thrown wv_X7_thrown wn_X7 wcode_X7_thrown rfl (by decide +kernel) ⟨(Nat.le_of_ble_eq_true rfl), (Nat.le_of_ble_eq_true rfl)⟩) rfl (zrecv B (zat (by decide) (z111 _ _ _)) cl7) zid rfl (Nat.le_of_ble_eq_true rfl) dL_law_907 ⟨(show _ ≤ 603072 by omega), (show _ ≤ 7215210 by omega)⟩ (fun v9 u9 hv9 => ?_)
  subst hv9
  refine zv_st (st' := [.int (m_X7_thrown ((m_X7_wireFrom ((w_L_wireFrom c w (xs (i + 1)) (xs (i + 2))).2.1) (xs (i + 1)) (xs (i + 2))).2))]) rfl ?_
  refine zv_iload (pc := 910) B 1 rfl dL_law_910 ?_
  refine zv_icmp_eq (pc := 912) (tgt := 917) B dL_law_912 rfl (fun _ => ?_) (fun h9 => absurd h1 h9)
  refine zv_iload (pc := 917) B 1 rfl dL_law_917 ?_
  refine zv_if_ne (pc := 919) (tgt := 934) B dL_law_919 rfl (fun hc => ?_) (fun hc => ?_)
  · refine zv_goto (pc := 934) (tgt := 2100) B rfl dL_law_934 ?_
    refine zv_widen (pc := 2100) (k' := k + 5) (n' := n + 28) (by omega) (by omega) ?_
    refine zv_loc (L' := [(0, .ref q0), (1, .ref (b + 0)), (2, .ref (b + 111)), (3, .ref (b + 124)), (4, .ref (b + 125)), (5, .int (nI i))]) [2, 3, 4, 5, 6, 7] rfl ?_
    exact next _ _ _ _ h3
  · refine zv_aload_n (pc := 922) B 5 rfl dL_law_922 ?_
    refine zv_iconst (pc := 923) (v := 0) B rfl dL_law_923 ?_
    refine zv_lald (pc := 924) (jj := 0) B (zat (by decide) (z124 _ _ _)) rfl (by decide) (by decide) dL_law_924 ?_
    refine zv_iload (pc := 925) B 0 rfl dL_law_925 ?_
    refine zv_i2l (pc := 927) B dL_law_927 ?_
    refine zv_lcmp (pc := 928) B dL_law_928 ?_
    refine zv_if_eq (pc := 929) (tgt := 934) B dL_law_929 rfl (fun _ => ?_) (fun h9 => absurd ((lg_cmp_eq _ _).mpr (h2 hc)) h9)
    refine zv_goto (pc := 934) (tgt := 2100) B rfl dL_law_934 ?_
    refine zv_widen (pc := 2100) (k' := k + 5) (n' := n + 28) (by omega) (by omega) ?_
    refine zv_loc (L' := [(0, .ref q0), (1, .ref (b + 0)), (2, .ref (b + 111)), (3, .ref (b + 124)), (4, .ref (b + 125)), (5, .int (nI i))]) [2, 3, 4, 5, 6, 7] rfl ?_
    exact next _ _ _ _ h3
set_option maxRecDepth 100000 in
set_option maxHeartbeats 400000 in
theorem law_wirePercent {Inv : Nat → (Nat → Nat → Int32) → (Nat → Int64) → (Nat → Nat → Int32) → Prop} (hok : zInvOK Inv) (hP : zP_wirePercent Inv) {p : Program} {l : Launch} {e : Env} {s : State} {m : MethodId} {args : Array Value} {below : List Frame} {meth : Method} {c9 : Code} {Q : State → Prop} {b : Nat} {E : zE} (B : zC p s m args meth c9 cL_law 9 "ToneGraphLaw" E b) (hlf : l.stackTraces = false) {q0 L : Nat} {xs : Nat → Int32} (hX : va_X q0 L xs s s.heap) (hbl : q0 < s.heap.size) (hb0 : s.heap.size = b) {k n i j : Nat} (hk : k + 5 ≤ 603072) (hn : n + 28 ≤ 7215210) (hi : i + 5 ≤ L) (hL : L < 2 ^ 31) {c : Nat → Nat → Int32} {w : Nat → Int64} {en : Nat → Nat} {ea : Nat → Nat → Int32} (hI : Inv j c w ea) (hj : j < 512) (next : ∀ (c' : Nat → Nat → Int32) (w' : Nat → Int64) (en' : Nat → Nat) (ea' : Nat → Nat → Int32), Inv (j + 1) c' w' ea' → zV p l e room_1 s m args below meth c9 Q 9 b (zH E b c' w' en' ea') 2100 [(0, .ref q0), (1, .ref (b + 0)), (2, .ref (b + 111)), (3, .ref (b + 124)), (4, .ref (b + 125)), (5, .int (nI i))] [] (k + 5) (n + 28)) : zV p l e room_1 s m args below meth c9 Q 9 b (zH E b c w en ea) 937 [(0, .ref q0), (1, .ref (b + 0)), (2, .ref (b + 111)), (3, .ref (b + 124)), (4, .ref (b + 125)), (5, .int (nI i))] [] k n := by
  obtain ⟨hg, hL9, hD, ht, hA, h0, hO, hS⟩ := hok j c w ea hI (by omega)
  refine zv_aload_n (pc := 937) B 1 rfl dL_law_937 ?_
  refine zv_aload_n (pc := 938) B 0 rfl dL_law_938 ?_
  refine zv_iload (pc := 939) B 5 rfl dL_law_939 ?_
  refine zv_iconst (pc := 941) (v := 1) B rfl dL_law_941 ?_
  refine zv_iadd (pc := 942) B dL_law_942 ?_
  refine zv_topi (y := nI (i + 1)) (nI_add i 1) ?_
  refine zv_sld (pc := 943) (jj := (i + 1)) B hX hbl hb0 rfl (by omega) hL dL_law_943 ?_
  refine zv_aload_n (pc := 944) B 0 rfl dL_law_944 ?_
  refine zv_iload (pc := 945) B 5 rfl dL_law_945 ?_
  refine zv_iconst (pc := 947) (v := 2) B rfl dL_law_947 ?_
  refine zv_iadd (pc := 948) B dL_law_948 ?_
  refine zv_topi (y := nI (i + 2)) (nI_add i 2) ?_
  refine zv_sld (pc := 949) (jj := (i + 2)) B hX hbl hb0 rfl (by omega) hL dL_law_949 ?_
  refine zv_aload_n (pc := 950) B 3 rfl dL_law_950 ?_
  refine zv_callSW (pc := 951) (As := [.ref (b + 0), .int (xs (i + 1)), .int (xs (i + 2)), .ref (b + 124)]) (rest := []) B (k_L_wirePercent l E b c w en ea (xs (i + 1)) (xs (i + 2)) hg hlf) (zcwSW 4 8 B wm_L_163 ws_L_wirePercent wn_L wcode_L_wirePercent (by decide +kernel) ⟨(Nat.le_of_ble_eq_true rfl), (Nat.le_of_ble_eq_true rfl)⟩) rfl zid rfl (Nat.le_of_ble_eq_true rfl) dL_law_951 ⟨(show _ ≤ 603072 by omega), (show _ ≤ 7215210 by omega)⟩ (fun v9 u9 hv9 => ?_)
  obtain ⟨rfl, hgw, hFw⟩ := hv9
  refine zv_st (st' := [.int ((w_L_wirePercent c w (xs (i + 1)) (xs (i + 2))).1)]) rfl ?_
  refine zv_istore (pc := 954) (L' := [(6, .int ((w_L_wirePercent c w (xs (i + 1)) (xs (i + 2))).1)), (0, .ref q0), (1, .ref (b + 0)), (2, .ref (b + 111)), (3, .ref (b + 124)), (4, .ref (b + 125)), (5, .int (nI i))]) B (by decide) rfl dL_law_954 ?_
  refine zv_aload_n (pc := 956) B 3 rfl dL_law_956 ?_
  refine zv_aload_n (pc := 957) B 1 rfl dL_law_957 ?_
  refine zv_iload (pc := 958) B 6 rfl dL_law_958 ?_
  refine zv_iconst (pc := 960) (v := 1) B rfl dL_law_960 ?_
  refine zv_iadd (pc := 961) B dL_law_961 ?_
  refine zv_topi (y := nI (i + 1)) (nI_add i 1) ?_
  refine zv_sld (pc := 962) (jj := (i + 1)) B hX hbl hb0 rfl (by omega) hL dL_law_962 ?_
  refine zv_aload_n (pc := 963) B 1 rfl dL_law_963 ?_
  refine zv_iload (pc := 964) B 6 rfl dL_law_964 ?_
  refine zv_iconst (pc := 966) (v := 2) B rfl dL_law_966 ?_
  refine zv_iadd (pc := 967) B dL_law_967 ?_
  refine zv_topi (y := nI (i + 2)) (nI_add i 2) ?_
  refine zv_sld (pc := 968) (jj := (i + 2)) B hX hbl hb0 rfl (by omega) hL dL_law_968 ?_
  refine zv_callV (pc := 969) (As := [.int (xs (i + 1)), .int (xs (i + 2))]) (rest := []) B (k_X7_wirePercent l E b _ _ _ _ (xs (i + 1)) (xs (i + 2)) hgw) (zcwV 2 3 B wm_L_165 wi_X7_wirePercent wv_X7_wirePercent wn_X7 wcode_X7_wirePercent rfl (by decide +kernel) ⟨(Nat.le_of_ble_eq_true rfl), (Nat.le_of_ble_eq_true rfl)⟩) rfl (zrecv B (zat (by decide) (z111 _ _ _)) cl7) zid rfl (Nat.le_of_ble_eq_true rfl) dL_law_969 ⟨(show _ ≤ 603072 by omega), (show _ ≤ 7215210 by omega)⟩ (fun v9 u9 hv9 => ?_)
  obtain ⟨rfl, hF7, hg7⟩ := hv9
  refine zv_st (st' := [.int ((m_X7_wirePercent ((w_L_wirePercent c w (xs (i + 1)) (xs (i + 2))).2.1) (xs (i + 1)) (xs (i + 2))).1)]) rfl ?_
  obtain ⟨h1, h2, h3⟩ := hP j c w en ea (xs (i + 1)) (xs (i + 2)) hI hj hFw hgw hF7 hg7
  refine zv_istore (pc := 972) (L' := [(7, .int ((m_X7_wirePercent ((w_L_wirePercent c w (xs (i + 1)) (xs (i + 2))).2.1) (xs (i + 1)) (xs (i + 2))).1)), (6, .int ((w_L_wirePercent c w (xs (i + 1)) (xs (i + 2))).1)), (0, .ref q0), (1, .ref (b + 0)), (2, .ref (b + 111)), (3, .ref (b + 124)), (4, .ref (b + 125)), (5, .int (nI i))]) B (by decide) rfl dL_law_972 ?_
  refine zv_aload_n (pc := 974) B 4 rfl dL_law_974 ?_
  refine zv_callV (pc := 975) (As := []) (rest := []) B (k_X7_thrown l E b _ _ _ _ ) (zcwV 0 0 B wm_L_123 wi_X7_thrown wv_X7_thrown wn_X7 wcode_X7_thrown rfl (by decide +kernel) ⟨(Nat.le_of_ble_eq_true rfl), (Nat.le_of_ble_eq_true rfl)⟩) rfl (zrecv B (zat (by decide) (z111 _ _ _)) cl7) zid rfl (Nat.le_of_ble_eq_true rfl) dL_law_975 ⟨(show _ ≤ 603072 by omega), (show _ ≤ 7215210 by omega)⟩ (fun v9 u9 hv9 => ?_)
  subst hv9
  refine zv_st (st' := [.int (m_X7_thrown ((m_X7_wirePercent ((w_L_wirePercent c w (xs (i + 1)) (xs (i + 2))).2.1) (xs (i + 1)) (xs (i + 2))).2))]) rfl ?_
  refine zv_iload (pc := 978) B 1 rfl dL_law_978 ?_
  refine zv_icmp_eq (pc := 980) (tgt := 985) B dL_law_980 rfl (fun _ => ?_) (fun h9 => absurd h1 h9)
  refine zv_iload (pc := 985) B 1 rfl dL_law_985 ?_
  refine zv_if_ne (pc := 987) (tgt := 1002) B dL_law_987 rfl (fun hc => ?_) (fun hc => ?_)
  · refine zv_goto (pc := 1002) (tgt := 2100) B rfl dL_law_1002 ?_
    refine zv_widen (pc := 2100) (k' := k + 5) (n' := n + 28) (by omega) (by omega) ?_
    refine zv_loc (L' := [(0, .ref q0), (1, .ref (b + 0)), (2, .ref (b + 111)), (3, .ref (b + 124)), (4, .ref (b + 125)), (5, .int (nI i))]) [2, 3, 4, 5, 6, 7] rfl ?_
    exact next _ _ _ _ h3
  · refine zv_aload_n (pc := 990) B 5 rfl dL_law_990 ?_
    refine zv_iconst (pc := 991) (v := 0) B rfl dL_law_991 ?_
    refine zv_lald (pc := 992) (jj := 0) B (zat (by decide) (z124 _ _ _)) rfl (by decide) (by decide) dL_law_992 ?_
    refine zv_iload (pc := 993) B 0 rfl dL_law_993 ?_
    refine zv_i2l (pc := 995) B dL_law_995 ?_
    refine zv_lcmp (pc := 996) B dL_law_996 ?_
    refine zv_if_eq (pc := 997) (tgt := 1002) B dL_law_997 rfl (fun _ => ?_) (fun h9 => absurd ((lg_cmp_eq _ _).mpr (h2 hc)) h9)
    refine zv_goto (pc := 1002) (tgt := 2100) B rfl dL_law_1002 ?_
    refine zv_widen (pc := 2100) (k' := k + 5) (n' := n + 28) (by omega) (by omega) ?_
    refine zv_loc (L' := [(0, .ref q0), (1, .ref (b + 0)), (2, .ref (b + 111)), (3, .ref (b + 124)), (4, .ref (b + 125)), (5, .int (nI i))]) [2, 3, 4, 5, 6, 7] rfl ?_
    exact next _ _ _ _ h3
set_option maxRecDepth 100000 in
set_option maxHeartbeats 400000 in
theorem law_nodeAt {Inv : Nat → (Nat → Nat → Int32) → (Nat → Int64) → (Nat → Nat → Int32) → Prop} (hok : zInvOK Inv) (hP : zP_nodeAt Inv) {p : Program} {l : Launch} {e : Env} {s : State} {m : MethodId} {args : Array Value} {below : List Frame} {meth : Method} {c9 : Code} {Q : State → Prop} {b : Nat} {E : zE} (B : zC p s m args meth c9 cL_law 9 "ToneGraphLaw" E b) (hlf : l.stackTraces = false) {q0 L : Nat} {xs : Nat → Int32} (hX : va_X q0 L xs s s.heap) (hbl : q0 < s.heap.size) (hb0 : s.heap.size = b) {k n i j : Nat} (hk : k + 5 ≤ 603072) (hn : n + 28 ≤ 7215210) (hi : i + 5 ≤ L) (hL : L < 2 ^ 31) {c : Nat → Nat → Int32} {w : Nat → Int64} {en : Nat → Nat} {ea : Nat → Nat → Int32} (hI : Inv j c w ea) (hj : j < 512) (next : ∀ (c' : Nat → Nat → Int32) (w' : Nat → Int64) (en' : Nat → Nat) (ea' : Nat → Nat → Int32), Inv (j + 1) c' w' ea' → zV p l e room_1 s m args below meth c9 Q 9 b (zH E b c' w' en' ea') 2100 [(0, .ref q0), (1, .ref (b + 0)), (2, .ref (b + 111)), (3, .ref (b + 124)), (4, .ref (b + 125)), (5, .int (nI i))] [] (k + 5) (n + 28)) : zV p l e room_1 s m args below meth c9 Q 9 b (zH E b c w en ea) 1005 [(0, .ref q0), (1, .ref (b + 0)), (2, .ref (b + 111)), (3, .ref (b + 124)), (4, .ref (b + 125)), (5, .int (nI i))] [] k n := by
  obtain ⟨hg, hL9, hD, ht, hA, h0, hO, hS⟩ := hok j c w ea hI (by omega)
  refine zv_aload_n (pc := 1005) B 1 rfl dL_law_1005 ?_
  refine zv_aload_n (pc := 1006) B 0 rfl dL_law_1006 ?_
  refine zv_iload (pc := 1007) B 5 rfl dL_law_1007 ?_
  refine zv_iconst (pc := 1009) (v := 1) B rfl dL_law_1009 ?_
  refine zv_iadd (pc := 1010) B dL_law_1010 ?_
  refine zv_topi (y := nI (i + 1)) (nI_add i 1) ?_
  refine zv_sld (pc := 1011) (jj := (i + 1)) B hX hbl hb0 rfl (by omega) hL dL_law_1011 ?_
  refine zv_aload_n (pc := 1012) B 3 rfl dL_law_1012 ?_
  refine zv_callSW (pc := 1013) (As := [.ref (b + 0), .int (xs (i + 1)), .ref (b + 124)]) (rest := []) B (k_L_nodeAt l E b c w en ea (xs (i + 1)) hg hlf) (zcwSW 3 8 B wm_L_166 ws_L_nodeAt wn_L wcode_L_nodeAt (by decide +kernel) ⟨(Nat.le_of_ble_eq_true rfl), (Nat.le_of_ble_eq_true rfl)⟩) rfl zid rfl (Nat.le_of_ble_eq_true rfl) dL_law_1013 ⟨(show _ ≤ 603072 by omega), (show _ ≤ 7215210 by omega)⟩ (fun v9 u9 hv9 => ?_)
  obtain ⟨rfl, hgw, hFw⟩ := hv9
  refine zv_st (st' := [.int ((w_L_nodeAt c w (xs (i + 1))).1)]) rfl ?_
  refine zv_istore (pc := 1016) (L' := [(6, .int ((w_L_nodeAt c w (xs (i + 1))).1)), (0, .ref q0), (1, .ref (b + 0)), (2, .ref (b + 111)), (3, .ref (b + 124)), (4, .ref (b + 125)), (5, .int (nI i))]) B (by decide) rfl dL_law_1016 ?_
  refine zv_aload_n (pc := 1018) B 3 rfl dL_law_1018 ?_
  refine zv_aload_n (pc := 1019) B 1 rfl dL_law_1019 ?_
  refine zv_iload (pc := 1020) B 6 rfl dL_law_1020 ?_
  refine zv_iconst (pc := 1022) (v := 1) B rfl dL_law_1022 ?_
  refine zv_iadd (pc := 1023) B dL_law_1023 ?_
  refine zv_topi (y := nI (i + 1)) (nI_add i 1) ?_
  refine zv_sld (pc := 1024) (jj := (i + 1)) B hX hbl hb0 rfl (by omega) hL dL_law_1024 ?_
  refine zv_callV (pc := 1025) (As := [.int (xs (i + 1))]) (rest := []) B (k_X7_nodeAt l E b _ _ _ _ (xs (i + 1)) hgw) (zcwV 1 2 B wm_L_168 wi_X7_nodeAt wv_X7_nodeAt wn_X7 wcode_X7_nodeAt rfl (by decide +kernel) ⟨(Nat.le_of_ble_eq_true rfl), (Nat.le_of_ble_eq_true rfl)⟩) rfl (zrecv B (zat (by decide) (z111 _ _ _)) cl7) zid rfl (Nat.le_of_ble_eq_true rfl) dL_law_1025 ⟨(show _ ≤ 603072 by omega), (show _ ≤ 7215210 by omega)⟩ (fun v9 u9 hv9 => ?_)
  obtain ⟨rfl, hF7, hg7⟩ := hv9
  refine zv_st (st' := [.int ((m_X7_nodeAt ((w_L_nodeAt c w (xs (i + 1))).2.1) (xs (i + 1))).1)]) rfl ?_
  obtain ⟨h1, h2, h3⟩ := hP j c w en ea (xs (i + 1)) hI hj hFw hgw hF7 hg7
  refine zv_istore (pc := 1028) (L' := [(7, .int ((m_X7_nodeAt ((w_L_nodeAt c w (xs (i + 1))).2.1) (xs (i + 1))).1)), (6, .int ((w_L_nodeAt c w (xs (i + 1))).1)), (0, .ref q0), (1, .ref (b + 0)), (2, .ref (b + 111)), (3, .ref (b + 124)), (4, .ref (b + 125)), (5, .int (nI i))]) B (by decide) rfl dL_law_1028 ?_
  refine zv_aload_n (pc := 1030) B 4 rfl dL_law_1030 ?_
  refine zv_callV (pc := 1031) (As := []) (rest := []) B (k_X7_thrown l E b _ _ _ _ ) (zcwV 0 0 B wm_L_123 wi_X7_thrown wv_X7_thrown wn_X7 wcode_X7_thrown rfl (by decide +kernel) ⟨(Nat.le_of_ble_eq_true rfl), (Nat.le_of_ble_eq_true rfl)⟩) rfl (zrecv B (zat (by decide) (z111 _ _ _)) cl7) zid rfl (Nat.le_of_ble_eq_true rfl) dL_law_1031 ⟨(show _ ≤ 603072 by omega), (show _ ≤ 7215210 by omega)⟩ (fun v9 u9 hv9 => ?_)
  subst hv9
  refine zv_st (st' := [.int (m_X7_thrown ((m_X7_nodeAt ((w_L_nodeAt c w (xs (i + 1))).2.1) (xs (i + 1))).2))]) rfl ?_
  refine zv_iload (pc := 1034) B 1 rfl dL_law_1034 ?_
  refine zv_icmp_eq (pc := 1036) (tgt := 1041) B dL_law_1036 rfl (fun _ => ?_) (fun h9 => absurd h1 h9)
  refine zv_iload (pc := 1041) B 1 rfl dL_law_1041 ?_
  refine zv_if_ne (pc := 1043) (tgt := 1058) B dL_law_1043 rfl (fun hc => ?_) (fun hc => ?_)
  · refine zv_goto (pc := 1058) (tgt := 2100) B rfl dL_law_1058 ?_
    refine zv_widen (pc := 2100) (k' := k + 5) (n' := n + 28) (by omega) (by omega) ?_
    refine zv_loc (L' := [(0, .ref q0), (1, .ref (b + 0)), (2, .ref (b + 111)), (3, .ref (b + 124)), (4, .ref (b + 125)), (5, .int (nI i))]) [2, 3, 4, 5, 6, 7] rfl ?_
    exact next _ _ _ _ h3
  · refine zv_aload_n (pc := 1046) B 5 rfl dL_law_1046 ?_
    refine zv_iconst (pc := 1047) (v := 0) B rfl dL_law_1047 ?_
    refine zv_lald (pc := 1048) (jj := 0) B (zat (by decide) (z124 _ _ _)) rfl (by decide) (by decide) dL_law_1048 ?_
    refine zv_iload (pc := 1049) B 0 rfl dL_law_1049 ?_
    refine zv_i2l (pc := 1051) B dL_law_1051 ?_
    refine zv_lcmp (pc := 1052) B dL_law_1052 ?_
    refine zv_if_eq (pc := 1053) (tgt := 1058) B dL_law_1053 rfl (fun _ => ?_) (fun h9 => absurd ((lg_cmp_eq _ _).mpr (h2 hc)) h9)
    refine zv_goto (pc := 1058) (tgt := 2100) B rfl dL_law_1058 ?_
    refine zv_widen (pc := 2100) (k' := k + 5) (n' := n + 28) (by omega) (by omega) ?_
    refine zv_loc (L' := [(0, .ref q0), (1, .ref (b + 0)), (2, .ref (b + 111)), (3, .ref (b + 124)), (4, .ref (b + 125)), (5, .int (nI i))]) [2, 3, 4, 5, 6, 7] rfl ?_
    exact next _ _ _ _ h3
set_option maxRecDepth 100000 in
set_option maxHeartbeats 400000 in
theorem law_longestBlock {Inv : Nat → (Nat → Nat → Int32) → (Nat → Int64) → (Nat → Nat → Int32) → Prop} (hok : zInvOK Inv) (hP : zP_longestBlock Inv) {p : Program} {l : Launch} {e : Env} {s : State} {m : MethodId} {args : Array Value} {below : List Frame} {meth : Method} {c9 : Code} {Q : State → Prop} {b : Nat} {E : zE} (B : zC p s m args meth c9 cL_law 9 "ToneGraphLaw" E b) (hlf : l.stackTraces = false) {q0 L : Nat} {xs : Nat → Int32} (hX : va_X q0 L xs s s.heap) (hbl : q0 < s.heap.size) (hb0 : s.heap.size = b) {k n i j : Nat} (hk : k + 5 ≤ 603072) (hn : n + 28 ≤ 7215210) (hi : i + 5 ≤ L) (hL : L < 2 ^ 31) {c : Nat → Nat → Int32} {w : Nat → Int64} {en : Nat → Nat} {ea : Nat → Nat → Int32} (hI : Inv j c w ea) (hj : j < 512) (next : ∀ (c' : Nat → Nat → Int32) (w' : Nat → Int64) (en' : Nat → Nat) (ea' : Nat → Nat → Int32), Inv (j + 1) c' w' ea' → zV p l e room_1 s m args below meth c9 Q 9 b (zH E b c' w' en' ea') 2100 [(0, .ref q0), (1, .ref (b + 0)), (2, .ref (b + 111)), (3, .ref (b + 124)), (4, .ref (b + 125)), (5, .int (nI i))] [] (k + 5) (n + 28)) : zV p l e room_1 s m args below meth c9 Q 9 b (zH E b c w en ea) 1061 [(0, .ref q0), (1, .ref (b + 0)), (2, .ref (b + 111)), (3, .ref (b + 124)), (4, .ref (b + 125)), (5, .int (nI i))] [] k n := by
  obtain ⟨hg, hL9, hD, ht, hA, h0, hO, hS⟩ := hok j c w ea hI (by omega)
  refine zv_aload_n (pc := 1061) B 1 rfl dL_law_1061 ?_
  refine zv_callV (pc := 1062) (As := []) (rest := []) B (k_X6_longestBlock l E b _ _ _ _  hg) (zcwV 0 7 B wm_L_169 wi_X6_longestBlock wv_X6_longestBlock wn_X6 wcode_X6_longestBlock rfl (by decide +kernel) ⟨(Nat.le_of_ble_eq_true rfl), (Nat.le_of_ble_eq_true rfl)⟩) rfl (zrecv B (zat (by decide) (z0 _ _ _)) cl6) zid rfl (Nat.le_of_ble_eq_true rfl) dL_law_1062 ⟨(show _ ≤ 603072 by omega), (show _ ≤ 7215210 by omega)⟩ (fun v9 u9 hv9 => ?_)
  subst hv9
  refine zv_st (st' := [.int (m_X6_longestBlock c)]) rfl ?_
  refine zv_aload_n (pc := 1065) B 2 rfl dL_law_1065 ?_
  refine zv_callV (pc := 1066) (As := []) (rest := [.int (m_X6_longestBlock c)]) B (k_X7_longestBlock l E b _ _ _ _ hg) (zcwV 0 1 B wm_L_172 wi_X7_longestBlock wv_X7_longestBlock wn_X7 wcode_X7_longestBlock rfl (by decide +kernel) ⟨(Nat.le_of_ble_eq_true rfl), (Nat.le_of_ble_eq_true rfl)⟩) rfl (zrecv B (zat (by decide) (z111 _ _ _)) cl7) zid rfl (Nat.le_of_ble_eq_true rfl) dL_law_1066 ⟨(show _ ≤ 603072 by omega), (show _ ≤ 7215210 by omega)⟩ (fun v9 u9 hv9 => ?_)
  obtain ⟨rfl, hF7, hg7⟩ := hv9
  refine zv_st (st' := [.int ((m_X7_longestBlock c).1), .int (m_X6_longestBlock c)]) rfl ?_
  obtain ⟨h1, h3⟩ := hP j c w en ea hI hj hF7 hg7
  refine zv_icmp_eq (pc := 1069) (tgt := 2100) B dL_law_1069 rfl (fun _ => ?_) (fun h9 => absurd h1 h9)
  refine zv_widen (pc := 2100) (k' := k + 5) (n' := n + 28) (by omega) (by omega) ?_
  exact next _ _ _ _ h3
set_option maxRecDepth 100000 in
set_option maxHeartbeats 400000 in
theorem law_setWave {Inv : Nat → (Nat → Nat → Int32) → (Nat → Int64) → (Nat → Nat → Int32) → Prop} (hok : zInvOK Inv) (hP : zP_setWave Inv) {p : Program} {l : Launch} {e : Env} {s : State} {m : MethodId} {args : Array Value} {below : List Frame} {meth : Method} {c9 : Code} {Q : State → Prop} {b : Nat} {E : zE} (B : zC p s m args meth c9 cL_law 9 "ToneGraphLaw" E b) (hlf : l.stackTraces = false) {q0 L : Nat} {xs : Nat → Int32} (hX : va_X q0 L xs s s.heap) (hbl : q0 < s.heap.size) (hb0 : s.heap.size = b) {k n i j : Nat} (hk : k + 5 ≤ 603072) (hn : n + 28 ≤ 7215210) (hi : i + 5 ≤ L) (hL : L < 2 ^ 31) {c : Nat → Nat → Int32} {w : Nat → Int64} {en : Nat → Nat} {ea : Nat → Nat → Int32} (hI : Inv j c w ea) (hj : j < 512) (next : ∀ (c' : Nat → Nat → Int32) (w' : Nat → Int64) (en' : Nat → Nat) (ea' : Nat → Nat → Int32), Inv (j + 1) c' w' ea' → zV p l e room_1 s m args below meth c9 Q 9 b (zH E b c' w' en' ea') 2100 [(0, .ref q0), (1, .ref (b + 0)), (2, .ref (b + 111)), (3, .ref (b + 124)), (4, .ref (b + 125)), (5, .int (nI i))] [] (k + 5) (n + 28)) : zV p l e room_1 s m args below meth c9 Q 9 b (zH E b c w en ea) 1074 [(0, .ref q0), (1, .ref (b + 0)), (2, .ref (b + 111)), (3, .ref (b + 124)), (4, .ref (b + 125)), (5, .int (nI i))] [] k n := by
  obtain ⟨hg, hL9, hD, ht, hA, h0, hO, hS⟩ := hok j c w ea hI (by omega)
  refine zv_aload_n (pc := 1074) B 1 rfl dL_law_1074 ?_
  refine zv_aload_n (pc := 1075) B 0 rfl dL_law_1075 ?_
  refine zv_iload (pc := 1076) B 5 rfl dL_law_1076 ?_
  refine zv_iconst (pc := 1078) (v := 1) B rfl dL_law_1078 ?_
  refine zv_iadd (pc := 1079) B dL_law_1079 ?_
  refine zv_topi (y := nI (i + 1)) (nI_add i 1) ?_
  refine zv_sld (pc := 1080) (jj := (i + 1)) B hX hbl hb0 rfl (by omega) hL dL_law_1080 ?_
  refine zv_i2c (pc := 1081) B dL_law_1081 ?_
  refine zv_aload_n (pc := 1082) B 3 rfl dL_law_1082 ?_
  refine zv_callSW (pc := 1083) (As := [.ref (b + 0), .int (((xs (i + 1)).toUInt32 % 65536).toInt32), .ref (b + 124)]) (rest := []) B (k_L_setWave l E b c w en ea (((xs (i + 1)).toUInt32 % 65536).toInt32) (zn_i2c _) hg hlf) (zcwSW 3 8 B wm_L_173 ws_L_setWave wn_L wcode_L_setWave (by decide +kernel) ⟨(Nat.le_of_ble_eq_true rfl), (Nat.le_of_ble_eq_true rfl)⟩) rfl zid rfl (Nat.le_of_ble_eq_true rfl) dL_law_1083 ⟨(show _ ≤ 603072 by omega), (show _ ≤ 7215210 by omega)⟩ (fun v9 u9 hv9 => ?_)
  obtain ⟨rfl, hgw, hFw⟩ := hv9
  refine zv_st (st' := [.int ((w_L_setWave c w (((xs (i + 1)).toUInt32 % 65536).toInt32)).1)]) rfl ?_
  refine zv_istore (pc := 1086) (L' := [(6, .int ((w_L_setWave c w (((xs (i + 1)).toUInt32 % 65536).toInt32)).1)), (0, .ref q0), (1, .ref (b + 0)), (2, .ref (b + 111)), (3, .ref (b + 124)), (4, .ref (b + 125)), (5, .int (nI i))]) B (by decide) rfl dL_law_1086 ?_
  refine zv_aload_n (pc := 1088) B 3 rfl dL_law_1088 ?_
  refine zv_aload_n (pc := 1089) B 1 rfl dL_law_1089 ?_
  refine zv_iload (pc := 1090) B 6 rfl dL_law_1090 ?_
  refine zv_iconst (pc := 1092) (v := 1) B rfl dL_law_1092 ?_
  refine zv_iadd (pc := 1093) B dL_law_1093 ?_
  refine zv_topi (y := nI (i + 1)) (nI_add i 1) ?_
  refine zv_sld (pc := 1094) (jj := (i + 1)) B hX hbl hb0 rfl (by omega) hL dL_law_1094 ?_
  refine zv_i2c (pc := 1095) B dL_law_1095 ?_
  refine zv_callV (pc := 1096) (As := [.int (((xs (i + 1)).toUInt32 % 65536).toInt32)]) (rest := []) B (k_X7_setWave l E b _ _ _ _ (((xs (i + 1)).toUInt32 % 65536).toInt32) hgw) (zcwV 1 2 B wm_L_176 wi_X7_setWave wv_X7_setWave wn_X7 wcode_X7_setWave rfl (by decide +kernel) ⟨(Nat.le_of_ble_eq_true rfl), (Nat.le_of_ble_eq_true rfl)⟩) rfl (zrecv B (zat (by decide) (z111 _ _ _)) cl7) zid rfl (Nat.le_of_ble_eq_true rfl) dL_law_1096 ⟨(show _ ≤ 603072 by omega), (show _ ≤ 7215210 by omega)⟩ (fun v9 u9 hv9 => ?_)
  obtain ⟨rfl, hF7, hg7⟩ := hv9
  refine zv_st (st' := [.int ((m_X7_setWave ((w_L_setWave c w (((xs (i + 1)).toUInt32 % 65536).toInt32)).2.1) (((xs (i + 1)).toUInt32 % 65536).toInt32)).1)]) rfl ?_
  obtain ⟨h1, h2, h3⟩ := hP j c w en ea (((xs (i + 1)).toUInt32 % 65536).toInt32) hI hj (zn_i2c _) hFw hgw hF7 hg7
  refine zv_istore (pc := 1099) (L' := [(7, .int ((m_X7_setWave ((w_L_setWave c w (((xs (i + 1)).toUInt32 % 65536).toInt32)).2.1) (((xs (i + 1)).toUInt32 % 65536).toInt32)).1)), (6, .int ((w_L_setWave c w (((xs (i + 1)).toUInt32 % 65536).toInt32)).1)), (0, .ref q0), (1, .ref (b + 0)), (2, .ref (b + 111)), (3, .ref (b + 124)), (4, .ref (b + 125)), (5, .int (nI i))]) B (by decide) rfl dL_law_1099 ?_
  refine zv_aload_n (pc := 1101) B 4 rfl dL_law_1101 ?_
  refine zv_callV (pc := 1102) (As := []) (rest := []) B (k_X7_thrown l E b _ _ _ _ ) (zcwV 0 0 B wm_L_123 wi_X7_thrown wv_X7_thrown wn_X7 wcode_X7_thrown rfl (by decide +kernel) ⟨(Nat.le_of_ble_eq_true rfl), (Nat.le_of_ble_eq_true rfl)⟩) rfl (zrecv B (zat (by decide) (z111 _ _ _)) cl7) zid rfl (Nat.le_of_ble_eq_true rfl) dL_law_1102 ⟨(show _ ≤ 603072 by omega), (show _ ≤ 7215210 by omega)⟩ (fun v9 u9 hv9 => ?_)
  subst hv9
  refine zv_st (st' := [.int (m_X7_thrown ((m_X7_setWave ((w_L_setWave c w (((xs (i + 1)).toUInt32 % 65536).toInt32)).2.1) (((xs (i + 1)).toUInt32 % 65536).toInt32)).2))]) rfl ?_
  refine zv_iload (pc := 1105) B 1 rfl dL_law_1105 ?_
  refine zv_icmp_eq (pc := 1107) (tgt := 1112) B dL_law_1107 rfl (fun _ => ?_) (fun h9 => absurd h1 h9)
  refine zv_iload (pc := 1112) B 1 rfl dL_law_1112 ?_
  refine zv_if_ne (pc := 1114) (tgt := 1129) B dL_law_1114 rfl (fun hc => ?_) (fun hc => ?_)
  · refine zv_goto (pc := 1129) (tgt := 2100) B rfl dL_law_1129 ?_
    refine zv_widen (pc := 2100) (k' := k + 5) (n' := n + 28) (by omega) (by omega) ?_
    refine zv_loc (L' := [(0, .ref q0), (1, .ref (b + 0)), (2, .ref (b + 111)), (3, .ref (b + 124)), (4, .ref (b + 125)), (5, .int (nI i))]) [2, 3, 4, 5, 6, 7] rfl ?_
    exact next _ _ _ _ h3
  · refine zv_aload_n (pc := 1117) B 5 rfl dL_law_1117 ?_
    refine zv_iconst (pc := 1118) (v := 0) B rfl dL_law_1118 ?_
    refine zv_lald (pc := 1119) (jj := 0) B (zat (by decide) (z124 _ _ _)) rfl (by decide) (by decide) dL_law_1119 ?_
    refine zv_iload (pc := 1120) B 0 rfl dL_law_1120 ?_
    refine zv_i2l (pc := 1122) B dL_law_1122 ?_
    refine zv_lcmp (pc := 1123) B dL_law_1123 ?_
    refine zv_if_eq (pc := 1124) (tgt := 1129) B dL_law_1124 rfl (fun _ => ?_) (fun h9 => absurd ((lg_cmp_eq _ _).mpr (h2 hc)) h9)
    refine zv_goto (pc := 1129) (tgt := 2100) B rfl dL_law_1129 ?_
    refine zv_widen (pc := 2100) (k' := k + 5) (n' := n + 28) (by omega) (by omega) ?_
    refine zv_loc (L' := [(0, .ref q0), (1, .ref (b + 0)), (2, .ref (b + 111)), (3, .ref (b + 124)), (4, .ref (b + 125)), (5, .int (nI i))]) [2, 3, 4, 5, 6, 7] rfl ?_
    exact next _ _ _ _ h3
set_option maxRecDepth 100000 in
set_option maxHeartbeats 400000 in
theorem law_setEnvelope {Inv : Nat → (Nat → Nat → Int32) → (Nat → Int64) → (Nat → Nat → Int32) → Prop} (hok : zInvOK Inv) (hP : zP_setEnvelope Inv) {p : Program} {l : Launch} {e : Env} {s : State} {m : MethodId} {args : Array Value} {below : List Frame} {meth : Method} {c9 : Code} {Q : State → Prop} {b : Nat} {E : zE} (B : zC p s m args meth c9 cL_law 9 "ToneGraphLaw" E b) (hlf : l.stackTraces = false) {q0 L : Nat} {xs : Nat → Int32} (hX : va_X q0 L xs s s.heap) (hbl : q0 < s.heap.size) (hb0 : s.heap.size = b) {k n i j : Nat} (hk : k + 5 ≤ 603072) (hn : n + 28 ≤ 7215210) (hi : i + 5 ≤ L) (hL : L < 2 ^ 31) {c : Nat → Nat → Int32} {w : Nat → Int64} {en : Nat → Nat} {ea : Nat → Nat → Int32} (hI : Inv j c w ea) (hj : j < 512) (next : ∀ (c' : Nat → Nat → Int32) (w' : Nat → Int64) (en' : Nat → Nat) (ea' : Nat → Nat → Int32), Inv (j + 1) c' w' ea' → zV p l e room_1 s m args below meth c9 Q 9 b (zH E b c' w' en' ea') 2100 [(0, .ref q0), (1, .ref (b + 0)), (2, .ref (b + 111)), (3, .ref (b + 124)), (4, .ref (b + 125)), (5, .int (nI i))] [] (k + 5) (n + 28)) : zV p l e room_1 s m args below meth c9 Q 9 b (zH E b c w en ea) 1132 [(0, .ref q0), (1, .ref (b + 0)), (2, .ref (b + 111)), (3, .ref (b + 124)), (4, .ref (b + 125)), (5, .int (nI i))] [] k n := by
  obtain ⟨hg, hL9, hD, ht, hA, h0, hO, hS⟩ := hok j c w ea hI (by omega)
  refine zv_aload_n (pc := 1132) B 1 rfl dL_law_1132 ?_
  refine zv_aload_n (pc := 1133) B 0 rfl dL_law_1133 ?_
  refine zv_iload (pc := 1134) B 5 rfl dL_law_1134 ?_
  refine zv_iconst (pc := 1136) (v := 1) B rfl dL_law_1136 ?_
  refine zv_iadd (pc := 1137) B dL_law_1137 ?_
  refine zv_topi (y := nI (i + 1)) (nI_add i 1) ?_
  refine zv_sld (pc := 1138) (jj := (i + 1)) B hX hbl hb0 rfl (by omega) hL dL_law_1138 ?_
  refine zv_aload_n (pc := 1139) B 0 rfl dL_law_1139 ?_
  refine zv_iload (pc := 1140) B 5 rfl dL_law_1140 ?_
  refine zv_iconst (pc := 1142) (v := 2) B rfl dL_law_1142 ?_
  refine zv_iadd (pc := 1143) B dL_law_1143 ?_
  refine zv_topi (y := nI (i + 2)) (nI_add i 2) ?_
  refine zv_sld (pc := 1144) (jj := (i + 2)) B hX hbl hb0 rfl (by omega) hL dL_law_1144 ?_
  refine zv_aload_n (pc := 1145) B 0 rfl dL_law_1145 ?_
  refine zv_iload (pc := 1146) B 5 rfl dL_law_1146 ?_
  refine zv_iconst (pc := 1148) (v := 3) B rfl dL_law_1148 ?_
  refine zv_iadd (pc := 1149) B dL_law_1149 ?_
  refine zv_topi (y := nI (i + 3)) (nI_add i 3) ?_
  refine zv_sld (pc := 1150) (jj := (i + 3)) B hX hbl hb0 rfl (by omega) hL dL_law_1150 ?_
  refine zv_aload_n (pc := 1151) B 0 rfl dL_law_1151 ?_
  refine zv_iload (pc := 1152) B 5 rfl dL_law_1152 ?_
  refine zv_iconst (pc := 1154) (v := 4) B rfl dL_law_1154 ?_
  refine zv_iadd (pc := 1155) B dL_law_1155 ?_
  refine zv_topi (y := nI (i + 4)) (nI_add i 4) ?_
  refine zv_sld (pc := 1156) (jj := (i + 4)) B hX hbl hb0 rfl (by omega) hL dL_law_1156 ?_
  refine zv_aload_n (pc := 1157) B 3 rfl dL_law_1157 ?_
  refine zv_callSW (pc := 1158) (As := [.ref (b + 0), .int (xs (i + 1)), .int (xs (i + 2)), .int (xs (i + 3)), .int (xs (i + 4)), .ref (b + 124)]) (rest := []) B (k_L_setEnvelope l E b c w en ea (xs (i + 1)) (xs (i + 2)) (xs (i + 3)) (xs (i + 4)) hg hlf) (zcwSW 6 8 B wm_L_177 ws_L_setEnvelope wn_L wcode_L_setEnvelope (by decide +kernel) ⟨(Nat.le_of_ble_eq_true rfl), (Nat.le_of_ble_eq_true rfl)⟩) rfl zid rfl (Nat.le_of_ble_eq_true rfl) dL_law_1158 ⟨(show _ ≤ 603072 by omega), (show _ ≤ 7215210 by omega)⟩ (fun v9 q9 hv9 => ?_)
  obtain ⟨rfl, hq9⟩ := hv9
  refine zv_st (st' := [.int ((w_L_setEnvelope w ea (xs (i + 1)) (xs (i + 2)) (xs (i + 3)) (xs (i + 4))).1)]) rfl ?_
  cases q9 with
  | none =>
    refine zv_istore (pc := 1161) (L' := [(6, .int ((w_L_setEnvelope w ea (xs (i + 1)) (xs (i + 2)) (xs (i + 3)) (xs (i + 4))).1)), (0, .ref q0), (1, .ref (b + 0)), (2, .ref (b + 111)), (3, .ref (b + 124)), (4, .ref (b + 125)), (5, .int (nI i))]) B (by decide) rfl dL_law_1161 ?_
    refine zv_aload_n (pc := 1163) B 3 rfl dL_law_1163 ?_
    refine zv_aload_n (pc := 1164) B 1 rfl dL_law_1164 ?_
    refine zv_iload (pc := 1165) B 6 rfl dL_law_1165 ?_
    refine zv_iconst (pc := 1167) (v := 1) B rfl dL_law_1167 ?_
    refine zv_iadd (pc := 1168) B dL_law_1168 ?_
    refine zv_topi (y := nI (i + 1)) (nI_add i 1) ?_
    refine zv_sld (pc := 1169) (jj := (i + 1)) B hX hbl hb0 rfl (by omega) hL dL_law_1169 ?_
    refine zv_aload_n (pc := 1170) B 1 rfl dL_law_1170 ?_
    refine zv_iload (pc := 1171) B 6 rfl dL_law_1171 ?_
    refine zv_iconst (pc := 1173) (v := 2) B rfl dL_law_1173 ?_
    refine zv_iadd (pc := 1174) B dL_law_1174 ?_
    refine zv_topi (y := nI (i + 2)) (nI_add i 2) ?_
    refine zv_sld (pc := 1175) (jj := (i + 2)) B hX hbl hb0 rfl (by omega) hL dL_law_1175 ?_
    refine zv_aload_n (pc := 1176) B 1 rfl dL_law_1176 ?_
    refine zv_iload (pc := 1177) B 6 rfl dL_law_1177 ?_
    refine zv_iconst (pc := 1179) (v := 3) B rfl dL_law_1179 ?_
    refine zv_iadd (pc := 1180) B dL_law_1180 ?_
    refine zv_topi (y := nI (i + 3)) (nI_add i 3) ?_
    refine zv_sld (pc := 1181) (jj := (i + 3)) B hX hbl hb0 rfl (by omega) hL dL_law_1181 ?_
    refine zv_aload_n (pc := 1182) B 1 rfl dL_law_1182 ?_
    refine zv_iload (pc := 1183) B 6 rfl dL_law_1183 ?_
    refine zv_iconst (pc := 1185) (v := 4) B rfl dL_law_1185 ?_
    refine zv_iadd (pc := 1186) B dL_law_1186 ?_
    refine zv_topi (y := nI (i + 4)) (nI_add i 4) ?_
    refine zv_sld (pc := 1187) (jj := (i + 4)) B hX hbl hb0 rfl (by omega) hL dL_law_1187 ?_
    refine zv_callV (pc := 1188) (As := [.int (xs (i + 1)), .int (xs (i + 2)), .int (xs (i + 3)), .int (xs (i + 4))]) (rest := []) B (k_X7_setEnvelope l E b _ _ _ _ (xs (i + 1)) (xs (i + 2)) (xs (i + 3)) (xs (i + 4)) hg) (zcwV 4 1 B wm_L_180 wi_X7_setEnvelope wv_X7_setEnvelope wn_X7 wcode_X7_setEnvelope rfl (by decide +kernel) ⟨(Nat.le_of_ble_eq_true rfl), (Nat.le_of_ble_eq_true rfl)⟩) rfl (zrecv B (zat (by decide) (z111 _ _ _)) cl7) zid rfl (Nat.le_of_ble_eq_true rfl) dL_law_1188 ⟨(show _ ≤ 603072 by omega), (show _ ≤ 7215210 by omega)⟩ (fun v9 u9 hv9 => ?_)
    obtain ⟨rfl, hF7, hg7⟩ := hv9
    refine zv_st (st' := [.int ((m_X7_setEnvelope c (xs (i + 1)) (xs (i + 2)) (xs (i + 3)) (xs (i + 4))).1)]) rfl ?_
    obtain ⟨h1, h2, h3a, h3b⟩ := hP j c w en ea (xs (i + 1)) (xs (i + 2)) (xs (i + 3)) (xs (i + 4)) hI hj hF7 hg7
    refine zv_istore (pc := 1191) (L' := [(7, .int ((m_X7_setEnvelope c (xs (i + 1)) (xs (i + 2)) (xs (i + 3)) (xs (i + 4))).1)), (6, .int ((w_L_setEnvelope w ea (xs (i + 1)) (xs (i + 2)) (xs (i + 3)) (xs (i + 4))).1)), (0, .ref q0), (1, .ref (b + 0)), (2, .ref (b + 111)), (3, .ref (b + 124)), (4, .ref (b + 125)), (5, .int (nI i))]) B (by decide) rfl dL_law_1191 ?_
    refine zv_aload_n (pc := 1193) B 4 rfl dL_law_1193 ?_
    refine zv_callV (pc := 1194) (As := []) (rest := []) B (k_X7_thrown l E b _ _ _ _ ) (zcwV 0 0 B wm_L_123 wi_X7_thrown wv_X7_thrown wn_X7 wcode_X7_thrown rfl (by decide +kernel) ⟨(Nat.le_of_ble_eq_true rfl), (Nat.le_of_ble_eq_true rfl)⟩) rfl (zrecv B (zat (by decide) (z111 _ _ _)) cl7) zid rfl (Nat.le_of_ble_eq_true rfl) dL_law_1194 ⟨(show _ ≤ 603072 by omega), (show _ ≤ 7215210 by omega)⟩ (fun v9 u9 hv9 => ?_)
    subst hv9
    refine zv_st (st' := [.int (m_X7_thrown ((m_X7_setEnvelope c (xs (i + 1)) (xs (i + 2)) (xs (i + 3)) (xs (i + 4))).2))]) rfl ?_
    refine zv_iload (pc := 1197) B 1 rfl dL_law_1197 ?_
    refine zv_icmp_eq (pc := 1199) (tgt := 1204) B dL_law_1199 rfl (fun _ => ?_) (fun h9 => absurd h1 h9)
    refine zv_iload (pc := 1204) B 1 rfl dL_law_1204 ?_
    refine zv_if_ne (pc := 1206) (tgt := 1221) B dL_law_1206 rfl (fun hc => ?_) (fun hc => ?_)
    · refine zv_goto (pc := 1221) (tgt := 2100) B rfl dL_law_1221 ?_
      refine zv_widen (pc := 2100) (k' := k + 5) (n' := n + 28) (by omega) (by omega) ?_
      refine zv_loc (L' := [(0, .ref q0), (1, .ref (b + 0)), (2, .ref (b + 111)), (3, .ref (b + 124)), (4, .ref (b + 125)), (5, .int (nI i))]) [2, 3, 4, 5, 6, 7] rfl ?_
      exact next _ _ _ _ (h3a (hq9.mp rfl))
    · refine zv_aload_n (pc := 1209) B 5 rfl dL_law_1209 ?_
      refine zv_iconst (pc := 1210) (v := 0) B rfl dL_law_1210 ?_
      refine zv_lald (pc := 1211) (jj := 0) B (zat (by decide) (z124 _ _ _)) rfl (by decide) (by decide) dL_law_1211 ?_
      refine zv_iload (pc := 1212) B 0 rfl dL_law_1212 ?_
      refine zv_i2l (pc := 1214) B dL_law_1214 ?_
      refine zv_lcmp (pc := 1215) B dL_law_1215 ?_
      refine zv_if_eq (pc := 1216) (tgt := 1221) B dL_law_1216 rfl (fun _ => ?_) (fun h9 => absurd ((lg_cmp_eq _ _).mpr (h2 hc)) h9)
      refine zv_goto (pc := 1221) (tgt := 2100) B rfl dL_law_1221 ?_
      refine zv_widen (pc := 2100) (k' := k + 5) (n' := n + 28) (by omega) (by omega) ?_
      refine zv_loc (L' := [(0, .ref q0), (1, .ref (b + 0)), (2, .ref (b + 111)), (3, .ref (b + 124)), (4, .ref (b + 125)), (5, .int (nI i))]) [2, 3, 4, 5, 6, 7] rfl ?_
      exact next _ _ _ _ (h3a (hq9.mp rfl))
  | some a9 =>
    refine zv_istore (pc := 1161) (L' := [(6, .int ((w_L_setEnvelope w ea (xs (i + 1)) (xs (i + 2)) (xs (i + 3)) (xs (i + 4))).1)), (0, .ref q0), (1, .ref (b + 0)), (2, .ref (b + 111)), (3, .ref (b + 124)), (4, .ref (b + 125)), (5, .int (nI i))]) B (by decide) rfl dL_law_1161 ?_
    refine zv_aload_n (pc := 1163) B 3 rfl dL_law_1163 ?_
    refine zv_aload_n (pc := 1164) B 1 rfl dL_law_1164 ?_
    refine zv_iload (pc := 1165) B 6 rfl dL_law_1165 ?_
    refine zv_iconst (pc := 1167) (v := 1) B rfl dL_law_1167 ?_
    refine zv_iadd (pc := 1168) B dL_law_1168 ?_
    refine zv_topi (y := nI (i + 1)) (nI_add i 1) ?_
    refine zv_sld (pc := 1169) (jj := (i + 1)) B hX hbl hb0 rfl (by omega) hL dL_law_1169 ?_
    refine zv_aload_n (pc := 1170) B 1 rfl dL_law_1170 ?_
    refine zv_iload (pc := 1171) B 6 rfl dL_law_1171 ?_
    refine zv_iconst (pc := 1173) (v := 2) B rfl dL_law_1173 ?_
    refine zv_iadd (pc := 1174) B dL_law_1174 ?_
    refine zv_topi (y := nI (i + 2)) (nI_add i 2) ?_
    refine zv_sld (pc := 1175) (jj := (i + 2)) B hX hbl hb0 rfl (by omega) hL dL_law_1175 ?_
    refine zv_aload_n (pc := 1176) B 1 rfl dL_law_1176 ?_
    refine zv_iload (pc := 1177) B 6 rfl dL_law_1177 ?_
    refine zv_iconst (pc := 1179) (v := 3) B rfl dL_law_1179 ?_
    refine zv_iadd (pc := 1180) B dL_law_1180 ?_
    refine zv_topi (y := nI (i + 3)) (nI_add i 3) ?_
    refine zv_sld (pc := 1181) (jj := (i + 3)) B hX hbl hb0 rfl (by omega) hL dL_law_1181 ?_
    refine zv_aload_n (pc := 1182) B 1 rfl dL_law_1182 ?_
    refine zv_iload (pc := 1183) B 6 rfl dL_law_1183 ?_
    refine zv_iconst (pc := 1185) (v := 4) B rfl dL_law_1185 ?_
    refine zv_iadd (pc := 1186) B dL_law_1186 ?_
    refine zv_topi (y := nI (i + 4)) (nI_add i 4) ?_
    refine zv_sld (pc := 1187) (jj := (i + 4)) B hX hbl hb0 rfl (by omega) hL dL_law_1187 ?_
    refine zv_callV (pc := 1188) (As := [.int (xs (i + 1)), .int (xs (i + 2)), .int (xs (i + 3)), .int (xs (i + 4))]) (rest := []) B (k_X7_setEnvelope l E b _ _ _ _ (xs (i + 1)) (xs (i + 2)) (xs (i + 3)) (xs (i + 4)) hg) (zcwV 4 1 B wm_L_180 wi_X7_setEnvelope wv_X7_setEnvelope wn_X7 wcode_X7_setEnvelope rfl (by decide +kernel) ⟨(Nat.le_of_ble_eq_true rfl), (Nat.le_of_ble_eq_true rfl)⟩) rfl (zrecv B (zat (by decide) (z111 _ _ _)) cl7) zid rfl (Nat.le_of_ble_eq_true rfl) dL_law_1188 ⟨(show _ ≤ 603072 by omega), (show _ ≤ 7215210 by omega)⟩ (fun v9 u9 hv9 => ?_)
    obtain ⟨rfl, hF7, hg7⟩ := hv9
    refine zv_st (st' := [.int ((m_X7_setEnvelope c (xs (i + 1)) (xs (i + 2)) (xs (i + 3)) (xs (i + 4))).1)]) rfl ?_
    obtain ⟨h1, h2, h3a, h3b⟩ := hP j c w en ea (xs (i + 1)) (xs (i + 2)) (xs (i + 3)) (xs (i + 4)) hI hj hF7 hg7
    refine zv_istore (pc := 1191) (L' := [(7, .int ((m_X7_setEnvelope c (xs (i + 1)) (xs (i + 2)) (xs (i + 3)) (xs (i + 4))).1)), (6, .int ((w_L_setEnvelope w ea (xs (i + 1)) (xs (i + 2)) (xs (i + 3)) (xs (i + 4))).1)), (0, .ref q0), (1, .ref (b + 0)), (2, .ref (b + 111)), (3, .ref (b + 124)), (4, .ref (b + 125)), (5, .int (nI i))]) B (by decide) rfl dL_law_1191 ?_
    refine zv_aload_n (pc := 1193) B 4 rfl dL_law_1193 ?_
    refine zv_callV (pc := 1194) (As := []) (rest := []) B (k_X7_thrown l E b _ _ _ _ ) (zcwV 0 0 B wm_L_123 wi_X7_thrown wv_X7_thrown wn_X7 wcode_X7_thrown rfl (by decide +kernel) ⟨(Nat.le_of_ble_eq_true rfl), (Nat.le_of_ble_eq_true rfl)⟩) rfl (zrecv B (zat (by decide) (z111 _ _ _)) cl7) zid rfl (Nat.le_of_ble_eq_true rfl) dL_law_1194 ⟨(show _ ≤ 603072 by omega), (show _ ≤ 7215210 by omega)⟩ (fun v9 u9 hv9 => ?_)
    subst hv9
    refine zv_st (st' := [.int (m_X7_thrown ((m_X7_setEnvelope c (xs (i + 1)) (xs (i + 2)) (xs (i + 3)) (xs (i + 4))).2))]) rfl ?_
    refine zv_iload (pc := 1197) B 1 rfl dL_law_1197 ?_
    refine zv_icmp_eq (pc := 1199) (tgt := 1204) B dL_law_1199 rfl (fun _ => ?_) (fun h9 => absurd h1 h9)
    refine zv_iload (pc := 1204) B 1 rfl dL_law_1204 ?_
    refine zv_if_ne (pc := 1206) (tgt := 1221) B dL_law_1206 rfl (fun hc => ?_) (fun hc => ?_)
    · refine zv_goto (pc := 1221) (tgt := 2100) B rfl dL_law_1221 ?_
      refine zv_widen (pc := 2100) (k' := k + 5) (n' := n + 28) (by omega) (by omega) ?_
      refine zv_loc (L' := [(0, .ref q0), (1, .ref (b + 0)), (2, .ref (b + 111)), (3, .ref (b + 124)), (4, .ref (b + 125)), (5, .int (nI i))]) [2, 3, 4, 5, 6, 7] rfl ?_
      exact next _ _ _ _ (h3b (fun h => by cases hq9.mpr h))
    · refine zv_aload_n (pc := 1209) B 5 rfl dL_law_1209 ?_
      refine zv_iconst (pc := 1210) (v := 0) B rfl dL_law_1210 ?_
      refine zv_lald (pc := 1211) (jj := 0) B (zat (by decide) (z124 _ _ _)) rfl (by decide) (by decide) dL_law_1211 ?_
      refine zv_iload (pc := 1212) B 0 rfl dL_law_1212 ?_
      refine zv_i2l (pc := 1214) B dL_law_1214 ?_
      refine zv_lcmp (pc := 1215) B dL_law_1215 ?_
      refine zv_if_eq (pc := 1216) (tgt := 1221) B dL_law_1216 rfl (fun _ => ?_) (fun h9 => absurd ((lg_cmp_eq _ _).mpr (h2 hc)) h9)
      refine zv_goto (pc := 1221) (tgt := 2100) B rfl dL_law_1221 ?_
      refine zv_widen (pc := 2100) (k' := k + 5) (n' := n + 28) (by omega) (by omega) ?_
      refine zv_loc (L' := [(0, .ref q0), (1, .ref (b + 0)), (2, .ref (b + 111)), (3, .ref (b + 124)), (4, .ref (b + 125)), (5, .int (nI i))]) [2, 3, 4, 5, 6, 7] rfl ?_
      exact next _ _ _ _ (h3b (fun h => by cases hq9.mpr h))
set_option maxRecDepth 100000 in
set_option maxHeartbeats 400000 in
theorem law_begin {Inv : Nat → (Nat → Nat → Int32) → (Nat → Int64) → (Nat → Nat → Int32) → Prop} (hok : zInvOK Inv) (hP : zP_begin Inv) {p : Program} {l : Launch} {e : Env} {s : State} {m : MethodId} {args : Array Value} {below : List Frame} {meth : Method} {c9 : Code} {Q : State → Prop} {b : Nat} {E : zE} (B : zC p s m args meth c9 cL_law 9 "ToneGraphLaw" E b) (hlf : l.stackTraces = false) {q0 L : Nat} {xs : Nat → Int32} (hX : va_X q0 L xs s s.heap) (hbl : q0 < s.heap.size) (hb0 : s.heap.size = b) {k n i j : Nat} (hk : k + 5 ≤ 603072) (hn : n + 28 ≤ 7215210) (hi : i + 5 ≤ L) (hL : L < 2 ^ 31) {c : Nat → Nat → Int32} {w : Nat → Int64} {en : Nat → Nat} {ea : Nat → Nat → Int32} (hI : Inv j c w ea) (hj : j < 512) (next : ∀ (c' : Nat → Nat → Int32) (w' : Nat → Int64) (en' : Nat → Nat) (ea' : Nat → Nat → Int32), Inv (j + 1) c' w' ea' → zV p l e room_1 s m args below meth c9 Q 9 b (zH E b c' w' en' ea') 2100 [(0, .ref q0), (1, .ref (b + 0)), (2, .ref (b + 111)), (3, .ref (b + 124)), (4, .ref (b + 125)), (5, .int (nI i))] [] (k + 5) (n + 28)) : zV p l e room_1 s m args below meth c9 Q 9 b (zH E b c w en ea) 1224 [(0, .ref q0), (1, .ref (b + 0)), (2, .ref (b + 111)), (3, .ref (b + 124)), (4, .ref (b + 125)), (5, .int (nI i))] [] k n := by
  obtain ⟨hg, hL9, hD, ht, hA, h0, hO, hS⟩ := hok j c w ea hI (by omega)
  refine zv_aload_n (pc := 1224) B 1 rfl dL_law_1224 ?_
  refine zv_aload_n (pc := 1225) B 0 rfl dL_law_1225 ?_
  refine zv_iload (pc := 1226) B 5 rfl dL_law_1226 ?_
  refine zv_iconst (pc := 1228) (v := 1) B rfl dL_law_1228 ?_
  refine zv_iadd (pc := 1229) B dL_law_1229 ?_
  refine zv_topi (y := nI (i + 1)) (nI_add i 1) ?_
  refine zv_sld (pc := 1230) (jj := (i + 1)) B hX hbl hb0 rfl (by omega) hL dL_law_1230 ?_
  refine zv_aload_n (pc := 1231) B 0 rfl dL_law_1231 ?_
  refine zv_iload (pc := 1232) B 5 rfl dL_law_1232 ?_
  refine zv_iconst (pc := 1234) (v := 2) B rfl dL_law_1234 ?_
  refine zv_iadd (pc := 1235) B dL_law_1235 ?_
  refine zv_topi (y := nI (i + 2)) (nI_add i 2) ?_
  refine zv_sld (pc := 1236) (jj := (i + 2)) B hX hbl hb0 rfl (by omega) hL dL_law_1236 ?_
  refine zv_aload_n (pc := 1237) B 3 rfl dL_law_1237 ?_
  refine zv_callSW (pc := 1238) (As := [.ref (b + 0), .int (xs (i + 1)), .int (xs (i + 2)), .ref (b + 124)]) (rest := []) B (k_L_begin l E b c w en ea (xs (i + 1)) (xs (i + 2)) hg hlf) (zcwSW 4 9 B wm_L_181 ws_L_begin wn_L wcode_L_begin (by decide +kernel) ⟨(Nat.le_of_ble_eq_true rfl), (Nat.le_of_ble_eq_true rfl)⟩) rfl zid rfl (Nat.le_of_ble_eq_true rfl) dL_law_1238 ⟨(show _ ≤ 603072 by omega), (show _ ≤ 7215210 by omega)⟩ (fun v9 u9 hv9 => ?_)
  obtain ⟨rfl, hgw, hFw⟩ := hv9
  refine zv_st (st' := [.int ((w_L_begin c w en ea (xs (i + 1)) (xs (i + 2))).1)]) rfl ?_
  refine zv_istore (pc := 1241) (L' := [(6, .int ((w_L_begin c w en ea (xs (i + 1)) (xs (i + 2))).1)), (0, .ref q0), (1, .ref (b + 0)), (2, .ref (b + 111)), (3, .ref (b + 124)), (4, .ref (b + 125)), (5, .int (nI i))]) B (by decide) rfl dL_law_1241 ?_
  refine zv_aload_n (pc := 1243) B 3 rfl dL_law_1243 ?_
  refine zv_aload_n (pc := 1244) B 1 rfl dL_law_1244 ?_
  refine zv_iload (pc := 1245) B 6 rfl dL_law_1245 ?_
  refine zv_iconst (pc := 1247) (v := 1) B rfl dL_law_1247 ?_
  refine zv_iadd (pc := 1248) B dL_law_1248 ?_
  refine zv_topi (y := nI (i + 1)) (nI_add i 1) ?_
  refine zv_sld (pc := 1249) (jj := (i + 1)) B hX hbl hb0 rfl (by omega) hL dL_law_1249 ?_
  refine zv_aload_n (pc := 1250) B 1 rfl dL_law_1250 ?_
  refine zv_iload (pc := 1251) B 6 rfl dL_law_1251 ?_
  refine zv_iconst (pc := 1253) (v := 2) B rfl dL_law_1253 ?_
  refine zv_iadd (pc := 1254) B dL_law_1254 ?_
  refine zv_topi (y := nI (i + 2)) (nI_add i 2) ?_
  refine zv_sld (pc := 1255) (jj := (i + 2)) B hX hbl hb0 rfl (by omega) hL dL_law_1255 ?_
  refine zv_callV (pc := 1256) (As := [.int (xs (i + 1)), .int (xs (i + 2))]) (rest := []) B (k_X7_begin l E b _ _ _ _ (xs (i + 1)) (xs (i + 2)) hgw) (zcwV 2 4 B wm_L_183 wi_X7_begin wv_X7_begin wn_X7 wcode_X7_begin rfl (by decide +kernel) ⟨(Nat.le_of_ble_eq_true rfl), (Nat.le_of_ble_eq_true rfl)⟩) rfl (zrecv B (zat (by decide) (z111 _ _ _)) cl7) zid rfl (Nat.le_of_ble_eq_true rfl) dL_law_1256 ⟨(show _ ≤ 603072 by omega), (show _ ≤ 7215210 by omega)⟩ (fun v9 u9 hv9 => ?_)
  obtain ⟨rfl, hF7, hg7⟩ := hv9
  refine zv_st (st' := [.int ((m_X7_begin ((w_L_begin c w en ea (xs (i + 1)) (xs (i + 2))).2.1) (xs (i + 1)) (xs (i + 2))).1)]) rfl ?_
  obtain ⟨h1, h2, h3⟩ := hP j c w en ea (xs (i + 1)) (xs (i + 2)) hI hj hFw hgw hF7 hg7
  refine zv_istore (pc := 1259) (L' := [(7, .int ((m_X7_begin ((w_L_begin c w en ea (xs (i + 1)) (xs (i + 2))).2.1) (xs (i + 1)) (xs (i + 2))).1)), (6, .int ((w_L_begin c w en ea (xs (i + 1)) (xs (i + 2))).1)), (0, .ref q0), (1, .ref (b + 0)), (2, .ref (b + 111)), (3, .ref (b + 124)), (4, .ref (b + 125)), (5, .int (nI i))]) B (by decide) rfl dL_law_1259 ?_
  refine zv_aload_n (pc := 1261) B 4 rfl dL_law_1261 ?_
  refine zv_callV (pc := 1262) (As := []) (rest := []) B (k_X7_thrown l E b _ _ _ _ ) (zcwV 0 0 B wm_L_123 wi_X7_thrown wv_X7_thrown wn_X7 wcode_X7_thrown rfl (by decide +kernel) ⟨(Nat.le_of_ble_eq_true rfl), (Nat.le_of_ble_eq_true rfl)⟩) rfl (zrecv B (zat (by decide) (z111 _ _ _)) cl7) zid rfl (Nat.le_of_ble_eq_true rfl) dL_law_1262 ⟨(show _ ≤ 603072 by omega), (show _ ≤ 7215210 by omega)⟩ (fun v9 u9 hv9 => ?_)
  subst hv9
  refine zv_st (st' := [.int (m_X7_thrown ((m_X7_begin ((w_L_begin c w en ea (xs (i + 1)) (xs (i + 2))).2.1) (xs (i + 1)) (xs (i + 2))).2))]) rfl ?_
  refine zv_iload (pc := 1265) B 1 rfl dL_law_1265 ?_
  refine zv_icmp_eq (pc := 1267) (tgt := 1272) B dL_law_1267 rfl (fun _ => ?_) (fun h9 => absurd h1 h9)
  refine zv_iload (pc := 1272) B 1 rfl dL_law_1272 ?_
  refine zv_if_ne (pc := 1274) (tgt := 1289) B dL_law_1274 rfl (fun hc => ?_) (fun hc => ?_)
  · refine zv_goto (pc := 1289) (tgt := 2100) B rfl dL_law_1289 ?_
    refine zv_widen (pc := 2100) (k' := k + 5) (n' := n + 28) (by omega) (by omega) ?_
    refine zv_loc (L' := [(0, .ref q0), (1, .ref (b + 0)), (2, .ref (b + 111)), (3, .ref (b + 124)), (4, .ref (b + 125)), (5, .int (nI i))]) [2, 3, 4, 5, 6, 7] rfl ?_
    exact next _ _ _ _ h3
  · refine zv_aload_n (pc := 1277) B 5 rfl dL_law_1277 ?_
    refine zv_iconst (pc := 1278) (v := 0) B rfl dL_law_1278 ?_
    refine zv_lald (pc := 1279) (jj := 0) B (zat (by decide) (z124 _ _ _)) rfl (by decide) (by decide) dL_law_1279 ?_
    refine zv_iload (pc := 1280) B 0 rfl dL_law_1280 ?_
    refine zv_i2l (pc := 1282) B dL_law_1282 ?_
    refine zv_lcmp (pc := 1283) B dL_law_1283 ?_
    refine zv_if_eq (pc := 1284) (tgt := 1289) B dL_law_1284 rfl (fun _ => ?_) (fun h9 => absurd ((lg_cmp_eq _ _).mpr (h2 hc)) h9)
    refine zv_goto (pc := 1289) (tgt := 2100) B rfl dL_law_1289 ?_
    refine zv_widen (pc := 2100) (k' := k + 5) (n' := n + 28) (by omega) (by omega) ?_
    refine zv_loc (L' := [(0, .ref q0), (1, .ref (b + 0)), (2, .ref (b + 111)), (3, .ref (b + 124)), (4, .ref (b + 125)), (5, .int (nI i))]) [2, 3, 4, 5, 6, 7] rfl ?_
    exact next _ _ _ _ h3
set_option maxRecDepth 100000 in
set_option maxHeartbeats 400000 in
theorem law_end {Inv : Nat → (Nat → Nat → Int32) → (Nat → Int64) → (Nat → Nat → Int32) → Prop} (hok : zInvOK Inv) (hP : zP_end Inv) {p : Program} {l : Launch} {e : Env} {s : State} {m : MethodId} {args : Array Value} {below : List Frame} {meth : Method} {c9 : Code} {Q : State → Prop} {b : Nat} {E : zE} (B : zC p s m args meth c9 cL_law 9 "ToneGraphLaw" E b) (hlf : l.stackTraces = false) {q0 L : Nat} {xs : Nat → Int32} (hX : va_X q0 L xs s s.heap) (hbl : q0 < s.heap.size) (hb0 : s.heap.size = b) {k n i j : Nat} (hk : k + 5 ≤ 603072) (hn : n + 28 ≤ 7215210) (hi : i + 5 ≤ L) (hL : L < 2 ^ 31) {c : Nat → Nat → Int32} {w : Nat → Int64} {en : Nat → Nat} {ea : Nat → Nat → Int32} (hI : Inv j c w ea) (hj : j < 512) (next : ∀ (c' : Nat → Nat → Int32) (w' : Nat → Int64) (en' : Nat → Nat) (ea' : Nat → Nat → Int32), Inv (j + 1) c' w' ea' → zV p l e room_1 s m args below meth c9 Q 9 b (zH E b c' w' en' ea') 2100 [(0, .ref q0), (1, .ref (b + 0)), (2, .ref (b + 111)), (3, .ref (b + 124)), (4, .ref (b + 125)), (5, .int (nI i))] [] (k + 5) (n + 28)) : zV p l e room_1 s m args below meth c9 Q 9 b (zH E b c w en ea) 1292 [(0, .ref q0), (1, .ref (b + 0)), (2, .ref (b + 111)), (3, .ref (b + 124)), (4, .ref (b + 125)), (5, .int (nI i))] [] k n := by
  obtain ⟨hg, hL9, hD, ht, hA, h0, hO, hS⟩ := hok j c w ea hI (by omega)
  refine zv_aload_n (pc := 1292) B 1 rfl dL_law_1292 ?_
  refine zv_aload_n (pc := 1293) B 0 rfl dL_law_1293 ?_
  refine zv_iload (pc := 1294) B 5 rfl dL_law_1294 ?_
  refine zv_iconst (pc := 1296) (v := 1) B rfl dL_law_1296 ?_
  refine zv_iadd (pc := 1297) B dL_law_1297 ?_
  refine zv_topi (y := nI (i + 1)) (nI_add i 1) ?_
  refine zv_sld (pc := 1298) (jj := (i + 1)) B hX hbl hb0 rfl (by omega) hL dL_law_1298 ?_
  refine zv_aload_n (pc := 1299) B 3 rfl dL_law_1299 ?_
  refine zv_callSW (pc := 1300) (As := [.ref (b + 0), .int (xs (i + 1)), .ref (b + 124)]) (rest := []) B (k_L_end l E b c w en ea (xs (i + 1)) hg hlf) (zcwSW 3 9 B wm_L_184 ws_L_end wn_L wcode_L_end (by decide +kernel) ⟨(Nat.le_of_ble_eq_true rfl), (Nat.le_of_ble_eq_true rfl)⟩) rfl zid rfl (Nat.le_of_ble_eq_true rfl) dL_law_1300 ⟨(show _ ≤ 603072 by omega), (show _ ≤ 7215210 by omega)⟩ (fun v9 u9 hv9 => ?_)
  obtain ⟨rfl, hgw, hFw⟩ := hv9
  refine zv_st (st' := [.int ((w_L_end c w ea (xs (i + 1))).1)]) rfl ?_
  refine zv_istore (pc := 1303) (L' := [(6, .int ((w_L_end c w ea (xs (i + 1))).1)), (0, .ref q0), (1, .ref (b + 0)), (2, .ref (b + 111)), (3, .ref (b + 124)), (4, .ref (b + 125)), (5, .int (nI i))]) B (by decide) rfl dL_law_1303 ?_
  refine zv_aload_n (pc := 1305) B 3 rfl dL_law_1305 ?_
  refine zv_aload_n (pc := 1306) B 1 rfl dL_law_1306 ?_
  refine zv_iload (pc := 1307) B 6 rfl dL_law_1307 ?_
  refine zv_iconst (pc := 1309) (v := 1) B rfl dL_law_1309 ?_
  refine zv_iadd (pc := 1310) B dL_law_1310 ?_
  refine zv_topi (y := nI (i + 1)) (nI_add i 1) ?_
  refine zv_sld (pc := 1311) (jj := (i + 1)) B hX hbl hb0 rfl (by omega) hL dL_law_1311 ?_
  refine zv_callV (pc := 1312) (As := [.int (xs (i + 1))]) (rest := []) B (k_X7_end l E b _ _ _ _ (xs (i + 1)) (T := 4000 * j) (by omega) (by rw [hFw 112 (by omega)]; exact hL9) hgw) (zcwV 1 5 B wm_L_186 wi_X7_end wv_X7_end wn_X7 wcode_X7_end rfl (by decide +kernel) ⟨(Nat.le_of_ble_eq_true rfl), (Nat.le_of_ble_eq_true rfl)⟩) rfl (zrecv B (zat (by decide) (z111 _ _ _)) cl7) zid rfl (Nat.le_of_ble_eq_true rfl) dL_law_1312 ⟨(show _ ≤ 603072 by omega), (show _ ≤ 7215210 by omega)⟩ (fun v9 u9 hv9 => ?_)
  obtain ⟨rfl, hF7, hg7⟩ := hv9
  refine zv_st (st' := [.int ((m_X7_end ((w_L_end c w ea (xs (i + 1))).2.1) (xs (i + 1))).1)]) rfl ?_
  obtain ⟨h1, h2, h3⟩ := hP j c w en ea (xs (i + 1)) hI hj hFw hgw hF7 hg7
  refine zv_istore (pc := 1315) (L' := [(7, .int ((m_X7_end ((w_L_end c w ea (xs (i + 1))).2.1) (xs (i + 1))).1)), (6, .int ((w_L_end c w ea (xs (i + 1))).1)), (0, .ref q0), (1, .ref (b + 0)), (2, .ref (b + 111)), (3, .ref (b + 124)), (4, .ref (b + 125)), (5, .int (nI i))]) B (by decide) rfl dL_law_1315 ?_
  refine zv_aload_n (pc := 1317) B 4 rfl dL_law_1317 ?_
  refine zv_callV (pc := 1318) (As := []) (rest := []) B (k_X7_thrown l E b _ _ _ _ ) (zcwV 0 0 B wm_L_123 wi_X7_thrown wv_X7_thrown wn_X7 wcode_X7_thrown rfl (by decide +kernel) ⟨(Nat.le_of_ble_eq_true rfl), (Nat.le_of_ble_eq_true rfl)⟩) rfl (zrecv B (zat (by decide) (z111 _ _ _)) cl7) zid rfl (Nat.le_of_ble_eq_true rfl) dL_law_1318 ⟨(show _ ≤ 603072 by omega), (show _ ≤ 7215210 by omega)⟩ (fun v9 u9 hv9 => ?_)
  subst hv9
  refine zv_st (st' := [.int (m_X7_thrown ((m_X7_end ((w_L_end c w ea (xs (i + 1))).2.1) (xs (i + 1))).2))]) rfl ?_
  refine zv_iload (pc := 1321) B 1 rfl dL_law_1321 ?_
  refine zv_icmp_eq (pc := 1323) (tgt := 1328) B dL_law_1323 rfl (fun _ => ?_) (fun h9 => absurd h1 h9)
  refine zv_iload (pc := 1328) B 1 rfl dL_law_1328 ?_
  refine zv_if_ne (pc := 1330) (tgt := 1345) B dL_law_1330 rfl (fun hc => ?_) (fun hc => ?_)
  · refine zv_goto (pc := 1345) (tgt := 2100) B rfl dL_law_1345 ?_
    refine zv_widen (pc := 2100) (k' := k + 5) (n' := n + 28) (by omega) (by omega) ?_
    refine zv_loc (L' := [(0, .ref q0), (1, .ref (b + 0)), (2, .ref (b + 111)), (3, .ref (b + 124)), (4, .ref (b + 125)), (5, .int (nI i))]) [2, 3, 4, 5, 6, 7] rfl ?_
    exact next _ _ _ _ h3
  · refine zv_aload_n (pc := 1333) B 5 rfl dL_law_1333 ?_
    refine zv_iconst (pc := 1334) (v := 0) B rfl dL_law_1334 ?_
    refine zv_lald (pc := 1335) (jj := 0) B (zat (by decide) (z124 _ _ _)) rfl (by decide) (by decide) dL_law_1335 ?_
    refine zv_iload (pc := 1336) B 0 rfl dL_law_1336 ?_
    refine zv_i2l (pc := 1338) B dL_law_1338 ?_
    refine zv_lcmp (pc := 1339) B dL_law_1339 ?_
    refine zv_if_eq (pc := 1340) (tgt := 1345) B dL_law_1340 rfl (fun _ => ?_) (fun h9 => absurd ((lg_cmp_eq _ _).mpr (h2 hc)) h9)
    refine zv_goto (pc := 1345) (tgt := 2100) B rfl dL_law_1345 ?_
    refine zv_widen (pc := 2100) (k' := k + 5) (n' := n + 28) (by omega) (by omega) ?_
    refine zv_loc (L' := [(0, .ref q0), (1, .ref (b + 0)), (2, .ref (b + 111)), (3, .ref (b + 124)), (4, .ref (b + 125)), (5, .int (nI i))]) [2, 3, 4, 5, 6, 7] rfl ?_
    exact next _ _ _ _ h3