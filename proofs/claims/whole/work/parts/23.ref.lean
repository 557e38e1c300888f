def g1_X7_inputOf (c : Nat → Nat → Int32) (t : Nat)  : Nat → Nat → Int32 → (Nat → Int32 → Int32) → Int32
  | 0, i, x, K => K i x
  | n + 1, i, x, K => g1_X7_inputOf c t n (i + 1) (x + (((c 112 (630 + zn (c 118 i))) * (c 119 i)) / 100)) K
def m_X7_inputOf (c : Nat → Nat → Int32) (t : Nat) : Int32 := g1_X7_inputOf c t (zn (c 120 t)) (4 * t) 0 (fun i x => x)
set_option maxRecDepth 100000 in
set_option maxHeartbeats 400000 in
theorem k_X7_inputOf (l : Launch) (E : zE) (b : Nat) (c : Nat → Nat → Int32) (w : Nat → Int64) (en : Nat → Nat) (ea : Nat → Nat → Int32) {t : Nat} (ht : t < 10) (hg : zG c) : zM l yX7_inputOf (.code yX7_inputOf cX7_inputOf 4 (some .int) :: zAll) (zRm 0 0 0) E b [.ref (b + 111), .int (nI t)] (zH E b c w en ea) (fun v9 (_ : Unit) => v9 = some (.int (m_X7_inputOf c t))) (fun _ => zH E b c w en ea) 0 0 := by
  refine zM_of "ToneGraphModel" (by decide) rfl rfl (Nat.le_of_ble_eq_true rfl) (L0 := [(0, .ref (b + 111)), (1, .int (nI t))]) rfl ?_
  intro p e s m args below meth c9 B hr hname
  have hN : zn (c 120 t) ≤ 4 := hg 120 t
  refine zv_iconst (pc := 0) (v := 0) B rfl dX7_inputOf_0 ?_
  refine zv_istore_n (pc := 1) (L' := [(2, .int 0), (0, .ref (b + 111)), (1, .int (nI t))]) B (by decide) rfl dX7_inputOf_1 ?_
  refine zv_iconst (pc := 2) (v := 4) B rfl dX7_inputOf_2 ?_
  refine zv_iload_n (pc := 3) B 2 rfl dX7_inputOf_3 ?_
  refine zv_imul (pc := 4) B dX7_inputOf_4 ?_
  refine zv_topi (y := nI (4 * t)) (pk_mul 4 t) ?_
  refine zv_istore_n (pc := 5) (L' := [(3, .int (nI (4 * t))), (2, .int 0), (0, .ref (b + 111)), (1, .int (nI t))]) B (by decide) rfl dX7_inputOf_5 ?_
  have loop1 : ∀ (K : Nat → Int32 → Int32) (n : Nat) (i : Nat) (x : Int32), i + n = 4 * t + zn (c 120 t) → g1_X7_inputOf c t n i x K = m_X7_inputOf c t → (∀ (i : Nat) (x : Int32), i ≤ 4 * t + zn (c 120 t) → K i x = m_X7_inputOf c t → zV p l e (zRm 0 0 0) s m args below meth c9 (MQ below (zQ b (fun v9 (_ : Unit) => v9 = some (.int (m_X7_inputOf c t))) (fun _ => zH E b c w en ea)) args s 0 0 (zA b)) 4 b (zH E b c w en ea) 54 [(0, .ref (b + 111)), (1, .int (nI t)), (3, .int (nI i)), (2, .int x)] [] 0 0) → zV p l e (zRm 0 0 0) s m args below meth c9 (MQ below (zQ b (fun v9 (_ : Unit) => v9 = some (.int (m_X7_inputOf c t))) (fun _ => zH E b c w en ea)) args s 0 0 (zA b)) 4 b (zH E b c w en ea) 6 [(0, .ref (b + 111)), (1, .int (nI t)), (3, .int (nI i)), (2, .int x)] [] 0 0 := by
    intro K n
    induction n with
    | zero =>
      intro i x hi hE901 hK
      refine zv_iload_n (pc := 6) B 2 rfl dX7_inputOf_6 ?_
      refine zv_iconst (pc := 7) (v := 4) B rfl dX7_inputOf_7 ?_
      refine zv_iload_n (pc := 8) B 1 rfl dX7_inputOf_8 ?_
      refine zv_imul (pc := 9) B dX7_inputOf_9 ?_
      refine zv_topi (y := nI (4 * t)) (pk_mul 4 t) ?_
      refine zv_aload_n (pc := 10) B 0 rfl dX7_inputOf_10 ?_
      refine zv_get (pc := 11) (v := .ref (b + 120)) B (zat (by decide) (z111 _ _ _)) cl7 inX7 8 (by decide) wf_X7_34 rfl dX7_inputOf_11 ?_
      refine zv_iload_n (pc := 14) B 1 rfl dX7_inputOf_14 ?_
      refine zv_iald (pc := 15) (jj := t) B (zat (by decide) (z120 _ _ _)) rfl ht (by decide) dX7_inputOf_15 ?_
      refine zv_iadd (pc := 16) B dX7_inputOf_16 ?_
      refine zv_topi (y := nI (4 * t + zn (c 120 t))) ((by rw [← nI_add, ← zn_eq])) ?_
      refine zv_icmp_ge (pc := 17) (tgt := 54) B dX7_inputOf_17 rfl (fun _ => ?_) (fun h9 => absurd ((z_le (a := (4 * t + zn (c 120 t))) (b := i) rfl rfl (by omega) (by omega)).mpr (by omega)) h9)
      exact hK i x  (by omega) (Eq.trans (by rw [g1_X7_inputOf]) hE901)
    | succ n ih =>
      intro i x hi hE901 hK
      have hs9 : zn (c 118 i) ≤ 9 := hg 118 i
      refine zv_iload_n (pc := 6) B 2 rfl dX7_inputOf_6 ?_
      refine zv_iconst (pc := 7) (v := 4) B rfl dX7_inputOf_7 ?_
      refine zv_iload_n (pc := 8) B 1 rfl dX7_inputOf_8 ?_
      refine zv_imul (pc := 9) B dX7_inputOf_9 ?_
      refine zv_topi (y := nI (4 * t)) (pk_mul 4 t) ?_
      refine zv_aload_n (pc := 10) B 0 rfl dX7_inputOf_10 ?_
      refine zv_get (pc := 11) (v := .ref (b + 120)) B (zat (by decide) (z111 _ _ _)) cl7 inX7 8 (by decide) wf_X7_34 rfl dX7_inputOf_11 ?_
      refine zv_iload_n (pc := 14) B 1 rfl dX7_inputOf_14 ?_
      refine zv_iald (pc := 15) (jj := t) B (zat (by decide) (z120 _ _ _)) rfl ht (by decide) dX7_inputOf_15 ?_
      refine zv_iadd (pc := 16) B dX7_inputOf_16 ?_
      refine zv_topi (y := nI (4 * t + zn (c 120 t))) ((by rw [← nI_add, ← zn_eq])) ?_
      refine zv_icmp_ge (pc := 17) (tgt := 54) B dX7_inputOf_17 rfl (fun h9 => absurd h9 (fun q9 => absurd ((z_le (a := (4 * t + zn (c 120 t))) (b := i) rfl rfl (by omega) (by omega)).mp q9) (by omega))) (fun _ => ?_)
      refine zv_iload_n (pc := 20) B 3 rfl dX7_inputOf_20 ?_
      refine zv_aload_n (pc := 21) B 0 rfl dX7_inputOf_21 ?_
      refine zv_get (pc := 22) (v := .ref (b + 112)) B (zat (by decide) (z111 _ _ _)) cl7 inX7 0 (by decide) wf_X7_7 rfl dX7_inputOf_22 ?_
      refine zv_sipush (pc := 25) (v := 630) B rfl dX7_inputOf_25 ?_
      refine zv_aload_n (pc := 28) B 0 rfl dX7_inputOf_28 ?_
      refine zv_get (pc := 29) (v := .ref (b + 118)) B (zat (by decide) (z111 _ _ _)) cl7 inX7 6 (by decide) wf_X7_28 rfl dX7_inputOf_29 ?_
      refine zv_iload_n (pc := 32) B 2 rfl dX7_inputOf_32 ?_
      refine zv_iald (pc := 33) (jj := i) B (zat (by decide) (z118 _ _ _)) rfl (by omega) (by decide) dX7_inputOf_33 ?_
      refine zv_iadd (pc := 34) B dX7_inputOf_34 ?_
      refine zv_topi (y := nI (630 + zn (c 118 i))) (zadl rfl) ?_
      refine zv_iald (pc := 35) (jj := (630 + zn (c 118 i))) B (zat (by decide) (z112 _ _ _)) rfl (by omega) (by decide) dX7_inputOf_35 ?_
      refine zv_aload_n (pc := 36) B 0 rfl dX7_inputOf_36 ?_
      refine zv_get (pc := 37) (v := .ref (b + 119)) B (zat (by decide) (z111 _ _ _)) cl7 inX7 7 (by decide) wf_X7_31 rfl dX7_inputOf_37 ?_
      refine zv_iload_n (pc := 40) B 2 rfl dX7_inputOf_40 ?_
      refine zv_iald (pc := 41) (jj := i) B (zat (by decide) (z119 _ _ _)) rfl (by omega) (by decide) dX7_inputOf_41 ?_
      refine zv_imul (pc := 42) B dX7_inputOf_42 ?_
      refine zv_bipush (pc := 43) (v := 100) B rfl dX7_inputOf_43 ?_
      refine zv_idiv (pc := 45) B (by decide) dX7_inputOf_45 ?_
      refine zv_iadd (pc := 46) B dX7_inputOf_46 ?_
      refine zv_istore_n (pc := 47) (L' := [(2, .int (x + (((c 112 (630 + zn (c 118 i))) * (c 119 i)) / 100))), (0, .ref (b + 111)), (1, .int (nI t)), (3, .int (nI i))]) B (by decide) rfl dX7_inputOf_47 ?_
      refine zv_iinc (pc := 48) (v := nI (i + 1)) (L' := [(3, .int (nI (i + 1))), (2, .int (x + (((c 112 (630 + zn (c 118 i))) * (c 119 i)) / 100))), (0, .ref (b + 111)), (1, .int (nI t))]) B 3 rfl (nI_1 _) (by decide) rfl dX7_inputOf_48 ?_
      refine zv_goto (pc := 51) (tgt := 6) B rfl dX7_inputOf_51 ?_
      refine zv_loc (L' := [(0, .ref (b + 111)), (1, .int (nI t)), (3, .int (nI (i + 1))), (2, .int (x + (((c 112 (630 + zn (c 118 i))) * (c 119 i)) / 100)))]) [2, 3, 0, 1] rfl ?_
      exact ih (i + 1) (x + (((c 112 (630 + zn (c 118 i))) * (c 119 i)) / 100))  (by omega) (Eq.trans (by rw [g1_X7_inputOf]) hE901) hK
  refine zv_loc (L' := [(0, .ref (b + 111)), (1, .int (nI t)), (3, .int (nI (4 * t))), (2, .int 0)]) [2, 3, 0, 1] rfl ?_
  refine loop1 (fun i x => x) (zn (c 120 t)) (4 * t) 0  (by omega) (by unfold m_X7_inputOf; rfl) ?_
  intro i x hx
  intro (hE951 : x = m_X7_inputOf c t)
  refine zv_iload_n (pc := 54) B 3 rfl dX7_inputOf_54 ?_
  have hE3 : x = m_X7_inputOf c t := hE951
  exact zv_iret (pc := 55) B (x) hr (fun H hP => ⟨(), (congrArg (fun z => some (Value.int z)) hE3), hP⟩) (Nat.le_of_ble_eq_true rfl) (Nat.le_of_ble_eq_true rfl) dX7_inputOf_55

def m_X7_hasNoWire (c : Nat → Nat → Int32) (x y : Int32) : Int32 × (Nat → Nat → Int32) := if (m_X7_isNode c x) = 0 then (1, zup c 111 12 1) else (if (r_X7_in y 0 ((c 120 (zn x)) - 1)) = 0 then (1, zup c 111 12 2) else (0, zup c 111 12 0))
set_option maxRecDepth 100000 in
set_option maxHeartbeats 400000 in
theorem k_X7_hasNoWire (l : Launch) (E : zE) (b : Nat) (c : Nat → Nat → Int32) (w : Nat → Int64) (en : Nat → Nat) (ea : Nat → Nat → Int32) (x y : Int32) (hg : zG c) : zM l yX7_hasNoWire (.code yX7_hasNoWire cX7_hasNoWire 3 (some .boolean) :: zAll) (zRm 2 0 0) E b [.ref (b + 111), .int x, .int y] (zH E b c w en ea) (fun v9 (_ : Unit) => v9 = some (.int (m_X7_hasNoWire c x y).1) ∧ zfr 111 112 111 111 c (m_X7_hasNoWire c x y).2 ∧ zG (m_X7_hasNoWire c x y).2) (fun _ => zH E b ((m_X7_hasNoWire c x y).2) w en ea) 0 0 := by
  refine zM_of "ToneGraphModel" (by decide) rfl rfl (Nat.le_of_ble_eq_true rfl) (L0 := [(0, .ref (b + 111)), (1, .int x), (2, .int y)]) rfl ?_
  intro p e s m args below meth c9 B hr hname
  refine zv_aload_n (pc := 0) B 0 rfl dX7_hasNoWire_0 ?_
  refine zv_aload_n (pc := 1) B 0 rfl dX7_hasNoWire_1 ?_
  refine zv_iload_n (pc := 2) B 1 rfl dX7_hasNoWire_2 ?_
  refine zv_callV (pc := 3) (As := [.int x]) (rest := [.ref (b + 111)]) B (k_X7_isNode l E b _ _ _ _  x) (zcwV 1 1 B wm_X7_110 wi_X7_isNode wv_X7_isNode wn_X7 wcode_X7_isNode rfl (by decide +kernel) ⟨(Nat.le_of_ble_eq_true rfl), (Nat.le_of_ble_eq_true rfl)⟩) rfl (zrecv B (zat (by decide) (z111 _ _ _)) cl7) zid rfl (Nat.le_of_ble_eq_true rfl) dX7_hasNoWire_3 ⟨(Nat.le_of_ble_eq_true rfl), (Nat.le_of_ble_eq_true rfl)⟩ (fun v9 u9 hv9 => ?_)
  subst hv9
  refine zv_st (st' := [.int (m_X7_isNode c x), .ref (b + 111)]) rfl ?_
  refine zv_if_ne (pc := 6) (tgt := 13) B dX7_hasNoWire_6 rfl (fun h1 => ?_) (fun h1 => ?_)
  · have hbx : zn x < 10 := nd_ok hg h1
    refine zv_iload_n (pc := 13) B 2 rfl dX7_hasNoWire_13 ?_
    refine zv_iconst (pc := 14) (v := 0) B rfl dX7_hasNoWire_14 ?_
    refine zv_aload_n (pc := 15) B 0 rfl dX7_hasNoWire_15 ?_
    refine zv_get (pc := 16) (v := .ref (b + 120)) B (zat (by decide) (z111 _ _ _)) cl7 inX7 8 (by decide) wf_X7_34 rfl dX7_hasNoWire_16 ?_
    refine zv_iload_n (pc := 19) B 1 rfl dX7_hasNoWire_19 ?_
    refine zv_iald (pc := 20) (jj := (zn x)) B (zat (by decide) (z120 _ _ _)) (zn_eq x) hbx (by decide) dX7_hasNoWire_20 ?_
    refine zv_iconst (pc := 21) (v := 1) B rfl dX7_hasNoWire_21 ?_
    refine zv_isub (pc := 22) B dX7_hasNoWire_22 ?_
    refine zv_callS (pc := 23) (As := [.int y, .int 0, .int ((c 120 (zn x)) - 1)]) (rest := [.ref (b + 111)]) B (k_X7_in l E b y 0 ((c 120 (zn x)) - 1)) (zcwS 3 0 B wm_X7_94 ws_X7_in wn_X7 wcode_X7_in (by decide +kernel) ⟨(Nat.le_of_ble_eq_true rfl), (Nat.le_of_ble_eq_true rfl)⟩) rfl zid rfl (Nat.le_of_ble_eq_true rfl) dX7_hasNoWire_23 ⟨(Nat.le_of_ble_eq_true rfl), (Nat.le_of_ble_eq_true rfl)⟩ (fun v9 u9 hv9 => ?_)
    subst hv9
    refine zv_st (st' := [.int (r_X7_in y 0 ((c 120 (zn x)) - 1)), .ref (b + 111)]) rfl ?_
    refine zv_if_ne (pc := 26) (tgt := 33) B dX7_hasNoWire_26 rfl (fun h2 => ?_) (fun h2 => ?_)
    · refine zv_iconst (pc := 33) (v := 0) B rfl dX7_hasNoWire_33 ?_
      refine zs_put9 (pc := 34) (f := 12) (F := fun x9 => [.ref (b + 112), .ref (b + 113), .ref (b + 114), .ref (b + 115), .ref (b + 116), .ref (b + 117), .ref (b + 118), .ref (b + 119), .ref (b + 120), .ref (b + 121), .ref (b + 122), .ref (b + 123), .int (x9 12), .int (x9 13), .int (x9 14), .int (x9 15), .int (x9 16), .int (x9 17), .int (x9 18), .int (x9 19), .int (x9 20), .int (x9 21), .int (x9 22), .int (x9 23), .int (x9 24), .long (w 111)]) B zid (by decide) rfl (fun x => z111 x _ _) cl7 inX7 tyX7 tyX7_ok nmX7 (by decide) wf_X7_47 rfl rfl rfl rfl (Nat.le_of_ble_eq_true rfl) (fun _ _ => rfl) dX7_hasNoWire_34 ?_
      refine zv_aload_n (pc := 37) B 0 rfl dX7_hasNoWire_37 ?_
      refine zv_get (pc := 38) (v := .int ((zup c 111 12 0) 111 12)) B (zat (by decide) (z111 _ _ _)) cl7 inX7 12 (by decide) wf_X7_47 rfl dX7_hasNoWire_38 ?_
      refine zv_topi (y := 0) (by rw [zup_s]) ?_
      refine zv_if_le (pc := 41) (tgt := 48) B dX7_hasNoWire_41 rfl (fun _ => ?_) (fun h9 => absurd (by decide) h9)
      refine zv_iconst (pc := 48) (v := 0) B rfl dX7_hasNoWire_48 ?_
      have hE4 : (0, zup c 111 12 0) = m_X7_hasNoWire c x y := (by unfold m_X7_hasNoWire; rw [if_neg h1, if_neg h2])
      exact zv_zret (pc := 49) B (0) rfl hr (fun H hP => ⟨(), ⟨(by rw [(zp2 hE4).1]), (by rw [(zp2 hE4).2]; exact (zfr.up zfr.refl (by omega))), (by rw [(zp2 hE4).2]; exact (zG.up hg (show zn _ ≤ zT9 from zn_T _)))⟩, (by rw [(zp2 hE4).2]; exact hP)⟩) (Nat.le_of_ble_eq_true rfl) (Nat.le_of_ble_eq_true rfl) dX7_hasNoWire_49
    · refine zv_iconst (pc := 29) (v := 2) B rfl dX7_hasNoWire_29 ?_
      refine zv_goto (pc := 30) (tgt := 34) B rfl dX7_hasNoWire_30 ?_
      refine zs_put9 (pc := 34) (f := 12) (F := fun x9 => [.ref (b + 112), .ref (b + 113), .ref (b + 114), .ref (b + 115), .ref (b + 116), .ref (b + 117), .ref (b + 118), .ref (b + 119), .ref (b + 120), .ref (b + 121), .ref (b + 122), .ref (b + 123), .int (x9 12), .int (x9 13), .int (x9 14), .int (x9 15), .int (x9 16), .int (x9 17), .int (x9 18), .int (x9 19), .int (x9 20), .int (x9 21), .int (x9 22), .int (x9 23), .int (x9 24), .long (w 111)]) B zid (by decide) rfl (fun x => z111 x _ _) cl7 inX7 tyX7 tyX7_ok nmX7 (by decide) wf_X7_47 rfl rfl rfl rfl (Nat.le_of_ble_eq_true rfl) (fun _ _ => rfl) dX7_hasNoWire_34 ?_
      refine zv_aload_n (pc := 37) B 0 rfl dX7_hasNoWire_37 ?_
      refine zv_get (pc := 38) (v := .int ((zup c 111 12 2) 111 12)) B (zat (by decide) (z111 _ _ _)) cl7 inX7 12 (by decide) wf_X7_47 rfl dX7_hasNoWire_38 ?_
      refine zv_topi (y := 2) (by rw [zup_s]) ?_
      refine zv_if_le (pc := 41) (tgt := 48) B dX7_hasNoWire_41 rfl (fun h9 => absurd h9 (by decide)) (fun _ => ?_)
      refine zv_iconst (pc := 44) (v := 1) B rfl dX7_hasNoWire_44 ?_
      refine zv_goto (pc := 45) (tgt := 49) B rfl dX7_hasNoWire_45 ?_
      have hE6 : (1, zup c 111 12 2) = m_X7_hasNoWire c x y := (by unfold m_X7_hasNoWire; rw [if_neg h1, if_pos h2])
      exact zv_zret (pc := 49) B (1) rfl hr (fun H hP => ⟨(), ⟨(by rw [(zp2 hE6).1]), (by rw [(zp2 hE6).2]; exact (zfr.up zfr.refl (by omega))), (by rw [(zp2 hE6).2]; exact (zG.up hg (show zn _ ≤ zT9 from zn_T _)))⟩, (by rw [(zp2 hE6).2]; exact hP)⟩) (Nat.le_of_ble_eq_true rfl) (Nat.le_of_ble_eq_true rfl) dX7_hasNoWire_49
  · refine zv_iconst (pc := 9) (v := 1) B rfl dX7_hasNoWire_9 ?_
    refine zv_goto (pc := 10) (tgt := 34) B rfl dX7_hasNoWire_10 ?_
    refine zs_put9 (pc := 34) (f := 12) (F := fun x9 => [.ref (b + 112), .ref (b + 113), .ref (b + 114), .ref (b + 115), .ref (b + 116), .ref (b + 117), .ref (b + 118), .ref (b + 119), .ref (b + 120), .ref (b + 121), .ref (b + 122), .ref (b + 123), .int (x9 12), .int (x9 13), .int (x9 14), .int (x9 15), .int (x9 16), .int (x9 17), .int (x9 18), .int (x9 19), .int (x9 20), .int (x9 21), .int (x9 22), .int (x9 23), .int (x9 24), .long (w 111)]) B zid (by decide) rfl (fun x => z111 x _ _) cl7 inX7 tyX7 tyX7_ok nmX7 (by decide) wf_X7_47 rfl rfl rfl rfl (Nat.le_of_ble_eq_true rfl) (fun _ _ => rfl) dX7_hasNoWire_34 ?_
    refine zv_aload_n (pc := 37) B 0 rfl dX7_hasNoWire_37 ?_
    refine zv_get (pc := 38) (v := .int ((zup c 111 12 1) 111 12)) B (zat (by decide) (z111 _ _ _)) cl7 inX7 12 (by decide) wf_X7_47 rfl dX7_hasNoWire_38 ?_
    refine zv_topi (y := 1) (by rw [zup_s]) ?_
    refine zv_if_le (pc := 41) (tgt := 48) B dX7_hasNoWire_41 rfl (fun h9 => absurd h9 (by decide)) (fun _ => ?_)
    refine zv_iconst (pc := 44) (v := 1) B rfl dX7_hasNoWire_44 ?_
    refine zv_goto (pc := 45) (tgt := 49) B rfl dX7_hasNoWire_45 ?_
    have hE8 : (1, zup c 111 12 1) = m_X7_hasNoWire c x y := (by unfold m_X7_hasNoWire; rw [if_pos h1])
    exact zv_zret (pc := 49) B (1) rfl hr (fun H hP => ⟨(), ⟨(by rw [(zp2 hE8).1]), (by rw [(zp2 hE8).2]; exact (zfr.up zfr.refl (by omega))), (by rw [(zp2 hE8).2]; exact (zG.up hg (show zn _ ≤ zT9 from zn_T _)))⟩, (by rw [(zp2 hE8).2]; exact hP)⟩) (Nat.le_of_ble_eq_true rfl) (Nat.le_of_ble_eq_true rfl) dX7_hasNoWire_49

def m_X7_setGain (c : Nat → Nat → Int32) (x y : Int32) : Int32 × (Nat → Nat → Int32) := if (m_X7_isNode c x) = 0 then (0, zup c 111 12 1) else (if (c 114 (zn x)) = 1 then (if (r_X7_in y (-200) 200) = 0 then (0, zup c 111 12 3) else (c 115 (zn x), zup (zup c 111 12 0) 115 (zn x) y)) else (0, zup c 111 12 2))
set_option maxRecDepth 100000 in
set_option maxHeartbeats 400000 in
theorem k_X7_setGain (l : Launch) (E : zE) (b : Nat) (c : Nat → Nat → Int32) (w : Nat → Int64) (en : Nat → Nat) (ea : Nat → Nat → Int32) (x y : Int32) (hg : zG c) : zM l yX7_setGain (.code yX7_setGain cX7_setGain 4 (some .int) :: zAll) (zRm 2 0 0) E b [.ref (b + 111), .int x, .int y] (zH E b c w en ea) (fun v9 (_ : Unit) => v9 = some (.int (m_X7_setGain c x y).1) ∧ zfr 111 116 111 111 c (m_X7_setGain c x y).2 ∧ zG (m_X7_setGain c x y).2) (fun _ => zH E b ((m_X7_setGain c x y).2) w en ea) 0 0 := by
  refine zM_of "ToneGraphModel" (by decide) rfl rfl (Nat.le_of_ble_eq_true rfl) (L0 := [(0, .ref (b + 111)), (1, .int x), (2, .int y)]) rfl ?_
  intro p e s m args below meth c9 B hr hname
  refine zv_aload_n (pc := 0) B 0 rfl dX7_setGain_0 ?_
  refine zv_aload_n (pc := 1) B 0 rfl dX7_setGain_1 ?_
  refine zv_iload_n (pc := 2) B 1 rfl dX7_setGain_2 ?_
  refine zv_callV (pc := 3) (As := [.int x]) (rest := [.ref (b + 111)]) B (k_X7_isNode l E b _ _ _ _  x) (zcwV 1 1 B wm_X7_110 wi_X7_isNode wv_X7_isNode wn_X7 wcode_X7_isNode rfl (by decide +kernel) ⟨(Nat.le_of_ble_eq_true rfl), (Nat.le_of_ble_eq_true rfl)⟩) rfl (zrecv B (zat (by decide) (z111 _ _ _)) cl7) zid rfl (Nat.le_of_ble_eq_true rfl) dX7_setGain_3 ⟨(Nat.le_of_ble_eq_true rfl), (Nat.le_of_ble_eq_true rfl)⟩ (fun v9 u9 hv9 => ?_)
  subst hv9
  refine zv_st (st' := [.int (m_X7_isNode c x), .ref (b + 111)]) rfl ?_
  refine zv_if_ne (pc := 6) (tgt := 13) B dX7_setGain_6 rfl (fun h1 => ?_) (fun h1 => ?_)
  · have hbx : zn x < 10 := nd_ok hg h1
    refine zv_aload_n (pc := 13) B 0 rfl dX7_setGain_13 ?_
    refine zv_get (pc := 14) (v := .ref (b + 114)) B (zat (by decide) (z111 _ _ _)) cl7 inX7 2 (by decide) wf_X7_16 rfl dX7_setGain_14 ?_
    refine zv_iload_n (pc := 17) B 1 rfl dX7_setGain_17 ?_
    refine zv_iald (pc := 18) (jj := (zn x)) B (zat (by decide) (z114 _ _ _)) (zn_eq x) hbx (by decide) dX7_setGain_18 ?_
    refine zv_iconst (pc := 19) (v := 1) B rfl dX7_setGain_19 ?_
    refine zv_icmp_eq (pc := 20) (tgt := 27) B dX7_setGain_20 rfl (fun h2 => ?_) (fun h2 => ?_)
    · refine zv_iload_n (pc := 27) B 2 rfl dX7_setGain_27 ?_
      refine zv_sipush (pc := 28) (v := (-200)) B rfl dX7_setGain_28 ?_
      refine zv_sipush (pc := 31) (v := 200) B rfl dX7_setGain_31 ?_
      refine zv_callS (pc := 34) (As := [.int y, .int (-200), .int 200]) (rest := [.ref (b + 111)]) B (k_X7_in l E b y (-200) 200) (zcwS 3 0 B wm_X7_94 ws_X7_in wn_X7 wcode_X7_in (by decide +kernel) ⟨(Nat.le_of_ble_eq_true rfl), (Nat.le_of_ble_eq_true rfl)⟩) rfl zid rfl (Nat.le_of_ble_eq_true rfl) dX7_setGain_34 ⟨(Nat.le_of_ble_eq_true rfl), (Nat.le_of_ble_eq_true rfl)⟩ (fun v9 u9 hv9 => ?_)
      subst hv9
      refine zv_st (st' := [.int (r_X7_in y (-200) 200), .ref (b + 111)]) rfl ?_
      refine zv_if_ne (pc := 37) (tgt := 44) B dX7_setGain_37 rfl (fun h3 => ?_) (fun h3 => ?_)
      · refine zv_iconst (pc := 44) (v := 0) B rfl dX7_setGain_44 ?_
        refine zs_put9 (pc := 45) (f := 12) (F := fun x9 => [.ref (b + 112), .ref (b + 113), .ref (b + 114), .ref (b + 115), .ref (b + 116), .ref (b + 117), .ref (b + 118), .ref (b + 119), .ref (b + 120), .ref (b + 121), .ref (b + 122), .ref (b + 123), .int (x9 12), .int (x9 13), .int (x9 14), .int (x9 15), .int (x9 16), .int (x9 17), .int (x9 18), .int (x9 19), .int (x9 20), .int (x9 21), .int (x9 22), .int (x9 23), .int (x9 24), .long (w 111)]) B zid (by decide) rfl (fun x => z111 x _ _) cl7 inX7 tyX7 tyX7_ok nmX7 (by decide) wf_X7_47 rfl rfl rfl rfl (Nat.le_of_ble_eq_true rfl) (fun _ _ => rfl) dX7_setGain_45 ?_
        refine zv_aload_n (pc := 48) B 0 rfl dX7_setGain_48 ?_
        refine zv_get (pc := 49) (v := .int ((zup c 111 12 0) 111 12)) B (zat (by decide) (z111 _ _ _)) cl7 inX7 12 (by decide) wf_X7_47 rfl dX7_setGain_49 ?_
        refine zv_topi (y := 0) (by rw [zup_s]) ?_
        refine zv_if_le (pc := 52) (tgt := 57) B dX7_setGain_52 rfl (fun _ => ?_) (fun h9 => absurd (by decide) h9)
        refine zv_aload_n (pc := 57) B 0 rfl dX7_setGain_57 ?_
        refine zv_get (pc := 58) (v := .ref (b + 115)) B (zat (by decide) (z111 _ _ _)) cl7 inX7 3 (by decide) wf_X7_19 rfl dX7_setGain_58 ?_
        refine zv_iload_n (pc := 61) B 1 rfl dX7_setGain_61 ?_
        refine zv_iald (pc := 62) (jj := (zn x)) B (zat (by decide) (z115 _ _ _)) (zn_eq x) hbx (by decide) dX7_setGain_62 ?_
        refine zv_topi (y := c 115 (zn x)) (by rw [zup_i (i := 111) (i' := 115) _ _ _ (by decide)]) ?_
        refine zv_istore_n (pc := 63) (L' := [(3, .int (c 115 (zn x))), (0, .ref (b + 111)), (1, .int x), (2, .int y)]) B (by decide) rfl dX7_setGain_63 ?_
        refine zv_aload_n (pc := 64) B 1 rfl dX7_setGain_64 ?_
        refine zv_get (pc := 65) (v := .ref (b + 115)) B (zat (by decide) (z111 _ _ _)) cl7 inX7 3 (by decide) wf_X7_19 rfl dX7_setGain_65 ?_
        refine zv_iload_n (pc := 68) B 2 rfl dX7_setGain_68 ?_
        refine zv_iload_n (pc := 69) B 3 rfl dX7_setGain_69 ?_
        refine zs_iast (pc := 70) (jj := (zn x)) B zid (by decide) rfl (fun x w e => z115 x w e) (zn_eq x) hbx (by decide) dX7_setGain_70 ?_
        refine zv_iload_n (pc := 71) B 0 rfl dX7_setGain_71 ?_
        have hE5 : (c 115 (zn x), zup (zup c 111 12 0) 115 (zn x) y) = m_X7_setGain c x y := (by unfold m_X7_setGain; rw [if_neg h1, if_pos h2, if_neg h3])
        exact zv_iret (pc := 72) B (c 115 (zn x)) hr (fun H hP => ⟨(), ⟨(by rw [(zp2 hE5).1]), (by rw [(zp2 hE5).2]; exact (zfr.up (zfr.up zfr.refl (by omega)) (by omega))), (by rw [(zp2 hE5).2]; exact (zG.free (zG.up hg (show zn _ ≤ zT9 from zn_T _)) (by unfold zfree; omega)))⟩, (by rw [(zp2 hE5).2]; exact hP)⟩) (Nat.le_of_ble_eq_true rfl) (Nat.le_of_ble_eq_true rfl) dX7_setGain_72
      · refine zv_iconst (pc := 40) (v := 3) B rfl dX7_setGain_40 ?_
        refine zv_goto (pc := 41) (tgt := 45) B rfl dX7_setGain_41 ?_
        refine zs_put9 (pc := 45) (f := 12) (F := fun x9 => [.ref (b + 112), .ref (b + 113), .ref (b + 114), .ref (b + 115), .ref (b + 116), .ref (b + 117), .ref (b + 118), .ref (b + 119), .ref (b + 120), .ref (b + 121), .ref (b + 122), .ref (b + 123), .int (x9 12), .int (x9 13), .int (x9 14), .int (x9 15), .int (x9 16), .int (x9 17), .int (x9 18), .int (x9 19), .int (x9 20), .int (x9 21), .int (x9 22), .int (x9 23), .int (x9 24), .long (w 111)]) B zid (by decide) rfl (fun x => z111 x _ _) cl7 inX7 tyX7 tyX7_ok nmX7 (by decide) wf_X7_47 rfl rfl rfl rfl (Nat.le_of_ble_eq_true rfl) (fun _ _ => rfl) dX7_setGain_45 ?_
        refine zv_aload_n (pc := 48) B 0 rfl dX7_setGain_48 ?_
        refine zv_get (pc := 49) (v := .int ((zup c 111 12 3) 111 12)) B (zat (by decide) (z111 _ _ _)) cl7 inX7 12 (by decide) wf_X7_47 rfl dX7_setGain_49 ?_
        refine zv_topi (y := 3) (by rw [zup_s]) ?_
        refine zv_if_le (pc := 52) (tgt := 57) B dX7_setGain_52 rfl (fun h9 => absurd h9 (by decide)) (fun _ => ?_)
        refine zv_iconst (pc := 55) (v := 0) B rfl dX7_setGain_55 ?_
        have hE7 : (0, zup c 111 12 3) = m_X7_setGain c x y := (by unfold m_X7_setGain; rw [if_neg h1, if_pos h2, if_pos h3])
        exact zv_iret (pc := 56) B (0) hr (fun H hP => ⟨(), ⟨(by rw [(zp2 hE7).1]), (by rw [(zp2 hE7).2]; exact (zfr.up zfr.refl (by omega))), (by rw [(zp2 hE7).2]; exact (zG.up hg (show zn _ ≤ zT9 from zn_T _)))⟩, (by rw [(zp2 hE7).2]; exact hP)⟩) (Nat.le_of_ble_eq_true rfl) (Nat.le_of_ble_eq_true rfl) dX7_setGain_56
    · refine zv_iconst (pc := 23) (v := 2) B rfl dX7_setGain_23 ?_
      refine zv_goto (pc := 24) (tgt := 45) B rfl dX7_setGain_24 ?_
      refine zs_put9 (pc := 45) (f := 12) (F := fun x9 => [.ref (b + 112), .ref (b + 113), .ref (b + 114), .ref (b + 115), .ref (b + 116), .ref (b + 117), .ref (b + 118), .ref (b + 119), .ref (b + 120), .ref (b + 121), .ref (b + 122), .ref (b + 123), .int (x9 12), .int (x9 13), .int (x9 14), .int (x9 15), .int (x9 16), .int (x9 17), .int (x9 18), .int (x9 19), .int (x9 20), .int (x9 21), .int (x9 22), .int (x9 23), .int (x9 24), .long (w 111)]) B zid (by decide) rfl (fun x => z111 x _ _) cl7 inX7 tyX7 tyX7_ok nmX7 (by decide) wf_X7_47 rfl rfl rfl rfl (Nat.le_of_ble_eq_true rfl) (fun _ _ => rfl) dX7_setGain_45 ?_
      refine zv_aload_n (pc := 48) B 0 rfl dX7_setGain_48 ?_
      refine zv_get (pc := 49) (v := .int ((zup c 111 12 2) 111 12)) B (zat (by decide) (z111 _ _ _)) cl7 inX7 12 (by decide) wf_X7_47 rfl dX7_setGain_49 ?_
      refine zv_topi (y := 2) (by rw [zup_s]) ?_
      refine zv_if_le (pc := 52) (tgt := 57) B dX7_setGain_52 rfl (fun h9 => absurd h9 (by decide)) (fun _ => ?_)
      refine zv_iconst (pc := 55) (v := 0) B rfl dX7_setGain_55 ?_
      have hE9 : (0, zup c 111 12 2) = m_X7_setGain c x y := (by unfold m_X7_setGain; rw [if_neg h1, if_neg h2])
      exact zv_iret (pc := 56) B (0) hr (fun H hP => ⟨(), ⟨(by rw [(zp2 hE9).1]), (by rw [(zp2 hE9).2]; exact (zfr.up zfr.refl (by omega))), (by rw [(zp2 hE9).2]; exact (zG.up hg (show zn _ ≤ zT9 from zn_T _)))⟩, (by rw [(zp2 hE9).2]; exact hP)⟩) (Nat.le_of_ble_eq_true rfl) (Nat.le_of_ble_eq_true rfl) dX7_setGain_56
  · refine zv_iconst (pc := 9) (v := 1) B rfl dX7_setGain_9 ?_
    refine zv_goto (pc := 10) (tgt := 45) B rfl dX7_setGain_10 ?_
    refine zs_put9 (pc := 45) (f := 12) (F := fun x9 => [.ref (b + 112), .ref (b + 113), .ref (b + 114), .ref (b + 115), .ref (b + 116), .ref (b + 117), .ref (b + 118), .ref (b + 119), .ref (b + 120), .ref (b + 121), .ref (b + 122), .ref (b + 123), .int (x9 12), .int (x9 13), .int (x9 14), .int (x9 15), .int (x9 16), .int (x9 17), .int (x9 18), .int (x9 19), .int (x9 20), .int (x9 21), .int (x9 22), .int (x9 23), .int (x9 24), .long (w 111)]) B zid (by decide) rfl (fun x => z111 x _ _) cl7 inX7 tyX7 tyX7_ok nmX7 (by decide) wf_X7_47 rfl rfl rfl rfl (Nat.le_of_ble_eq_true rfl) (fun _ _ => rfl) dX7_setGain_45 ?_
    refine zv_aload_n (pc := 48) B 0 rfl dX7_setGain_48 ?_
    refine zv_get (pc := 49) (v := .int ((zup c 111 12 1) 111 12)) B (zat (by decide) (z111 _ _ _)) cl7 inX7 12 (by decide) wf_X7_47 rfl dX7_setGain_49 ?_
    refine zv_topi (y := 1) (by rw [zup_s]) ?_
    refine zv_if_le (pc := 52) (tgt := 57) B dX7_setGain_52 rfl (fun h9 => absurd h9 (by decide)) (fun _ => ?_)
    refine zv_iconst (pc := 55) (v := 0) B rfl dX7_setGain_55 ?_
    have hE11 : (0, zup c 111 12 1) = m_X7_setGain c x y := (by unfold m_X7_setGain; rw [if_pos h1])
    exact zv_iret (pc := 56) B (0) hr (fun H hP => ⟨(), ⟨(by rw [(zp2 hE11).1]), (by rw [(zp2 hE11).2]; exact (zfr.up zfr.refl (by omega))), (by rw [(zp2 hE11).2]; exact (zG.up hg (show zn _ ≤ zT9 from zn_T _)))⟩, (by rw [(zp2 hE11).2]; exact hP)⟩) (Nat.le_of_ble_eq_true rfl) (Nat.le_of_ble_eq_true rfl) dX7_setGain_56

def m_X7_isFull (c : Nat → Nat → Int32) (x : Int32) : Int32 × (Nat → Nat → Int32) := if x = 0 then (if (c 111 13) = 10 then (1, zup c 111 12 2) else (0, zup c 111 12 0)) else (1, zup c 111 12 1)
set_option maxRecDepth 100000 in
set_option maxHeartbeats 400000 in
theorem k_X7_isFull (l : Launch) (E : zE) (b : Nat) (c : Nat → Nat → Int32) (w : Nat → Int64) (en : Nat → Nat) (ea : Nat → Nat → Int32) (x : Int32) (hg : zG c) : zM l yX7_isFull (.code yX7_isFull cX7_isFull 2 (some .boolean) :: zAll) (zRm 0 0 0) E b [.ref (b + 111), .int x] (zH E b c w en ea) (fun v9 (_ : Unit) => v9 = some (.int (m_X7_isFull c x).1) ∧ zfr 111 112 111 111 c (m_X7_isFull c x).2 ∧ zG (m_X7_isFull c x).2) (fun _ => zH E b ((m_X7_isFull c x).2) w en ea) 0 0 := by
  refine zM_of "ToneGraphModel" (by decide) rfl rfl (Nat.le_of_ble_eq_true rfl) (L0 := [(0, .ref (b + 111)), (1, .int x)]) rfl ?_
  intro p e s m args below meth c9 B hr hname
  refine zv_aload_n (pc := 0) B 0 rfl dX7_isFull_0 ?_
  refine zv_iload_n (pc := 1) B 1 rfl dX7_isFull_1 ?_
  refine zv_if_eq (pc := 2) (tgt := 9) B dX7_isFull_2 rfl (fun h1 => ?_) (fun h1 => ?_)
  · refine zv_aload_n (pc := 9) B 0 rfl dX7_isFull_9 ?_
    refine zv_get (pc := 10) (v := .int (c 111 13)) B (zat (by decide) (z111 _ _ _)) cl7 inX7 13 (by decide) wf_X7_51 rfl dX7_isFull_10 ?_
    refine zv_bipush (pc := 13) (v := 10) B rfl dX7_isFull_13 ?_
    refine zv_icmp_ne (pc := 15) (tgt := 22) B dX7_isFull_15 rfl (fun h2 => ?_) (fun h2 => ?_)
    · refine zv_iconst (pc := 22) (v := 0) B rfl dX7_isFull_22 ?_
      refine zs_put9 (pc := 23) (f := 12) (F := fun x9 => [.ref (b + 112), .ref (b + 113), .ref (b + 114), .ref (b + 115), .ref (b + 116), .ref (b + 117), .ref (b + 118), .ref (b + 119), .ref (b + 120), .ref (b + 121), .ref (b + 122), .ref (b + 123), .int (x9 12), .int (x9 13), .int (x9 14), .int (x9 15), .int (x9 16), .int (x9 17), .int (x9 18), .int (x9 19), .int (x9 20), .int (x9 21), .int (x9 22), .int (x9 23), .int (x9 24), .long (w 111)]) B zid (by decide) rfl (fun x => z111 x _ _) cl7 inX7 tyX7 tyX7_ok nmX7 (by decide) wf_X7_47 rfl rfl rfl rfl (Nat.le_of_ble_eq_true rfl) (fun _ _ => rfl) dX7_isFull_23 ?_
      refine zv_aload_n (pc := 26) B 0 rfl dX7_isFull_26 ?_
      refine zv_get (pc := 27) (v := .int ((zup c 111 12 0) 111 12)) B (zat (by decide) (z111 _ _ _)) cl7 inX7 12 (by decide) wf_X7_47 rfl dX7_isFull_27 ?_
      refine zv_topi (y := 0) (by rw [zup_s]) ?_
      refine zv_if_le (pc := 30) (tgt := 37) B dX7_isFull_30 rfl (fun _ => ?_) (fun h9 => absurd (by decide) h9)
      refine zv_iconst (pc := 37) (v := 0) B rfl dX7_isFull_37 ?_
      have hE4 : (0, zup c 111 12 0) = m_X7_isFull c x := (by unfold m_X7_isFull; rw [if_pos h1, if_neg h2])
      exact zv_zret (pc := 38) B (0) rfl hr (fun H hP => ⟨(), ⟨(by rw [(zp2 hE4).1]), (by rw [(zp2 hE4).2]; exact (zfr.up zfr.refl (by omega))), (by rw [(zp2 hE4).2]; exact (zG.up hg (show zn _ ≤ zT9 from zn_T _)))⟩, (by rw [(zp2 hE4).2]; exact hP)⟩) (Nat.le_of_ble_eq_true rfl) (Nat.le_of_ble_eq_true rfl) dX7_isFull_38
    · refine zv_iconst (pc := 18) (v := 2) B rfl dX7_isFull_18 ?_
      refine zv_goto (pc := 19) (tgt := 23) B rfl dX7_isFull_19 ?_
      refine zs_put9 (pc := 23) (f := 12) (F := fun x9 => [.ref (b + 112), .ref (b + 113), .ref (b + 114), .ref (b + 115), .ref (b + 116), .ref (b + 117), .ref (b + 118), .ref (b + 119), .ref (b + 120), .ref (b + 121), .ref (b + 122), .ref (b + 123), .int (x9 12), .int (x9 13), .int (x9 14), .int (x9 15), .int (x9 16), .int (x9 17), .int (x9 18), .int (x9 19), .int (x9 20), .int (x9 21), .int (x9 22), .int (x9 23), .int (x9 24), .long (w 111)]) B zid (by decide) rfl (fun x => z111 x _ _) cl7 inX7 tyX7 tyX7_ok nmX7 (by decide) wf_X7_47 rfl rfl rfl rfl (Nat.le_of_ble_eq_true rfl) (fun _ _ => rfl) dX7_isFull_23 ?_
      refine zv_aload_n (pc := 26) B 0 rfl dX7_isFull_26 ?_
      refine zv_get (pc := 27) (v := .int ((zup c 111 12 2) 111 12)) B (zat (by decide) (z111 _ _ _)) cl7 inX7 12 (by decide) wf_X7_47 rfl dX7_isFull_27 ?_
      refine zv_topi (y := 2) (by rw [zup_s]) ?_
      refine zv_if_le (pc := 30) (tgt := 37) B dX7_isFull_30 rfl (fun h9 => absurd h9 (by decide)) (fun _ => ?_)
      refine zv_iconst (pc := 33) (v := 1) B rfl dX7_isFull_33 ?_
      refine zv_goto (pc := 34) (tgt := 38) B rfl dX7_isFull_34 ?_
      have hE6 : (1, zup c 111 12 2) = m_X7_isFull c x := (by unfold m_X7_isFull; rw [if_pos h1, if_pos h2])
      exact zv_zret (pc := 38) B (1) rfl hr (fun H hP => ⟨(), ⟨(by rw [(zp2 hE6).1]), (by rw [(zp2 hE6).2]; exact (zfr.up zfr.refl (by omega))), (by rw [(zp2 hE6).2]; exact (zG.up hg (show zn _ ≤ zT9 from zn_T _)))⟩, (by rw [(zp2 hE6).2]; exact hP)⟩) (Nat.le_of_ble_eq_true rfl) (Nat.le_of_ble_eq_true rfl) dX7_isFull_38
  · refine zv_iconst (pc := 5) (v := 1) B rfl dX7_isFull_5 ?_
    refine zv_goto (pc := 6) (tgt := 23) B rfl dX7_isFull_6 ?_
    refine zs_put9 (pc := 23) (f := 12) (F := fun x9 => [.ref (b + 112), .ref (b + 113), .ref (b + 114), .ref (b + 115), .ref (b + 116), .ref (b + 117), .ref (b + 118), .ref (b + 119), .ref (b + 120), .ref (b + 121), .ref (b + 122), .ref (b + 123), .int (x9 12), .int (x9 13), .int (x9 14), .int (x9 15), .int (x9 16), .int (x9 17), .int (x9 18), .int (x9 19), .int (x9 20), .int (x9 21), .int (x9 22), .int (x9 23), .int (x9 24), .long (w 111)]) B zid (by decide) rfl (fun x => z111 x _ _) cl7 inX7 tyX7 tyX7_ok nmX7 (by decide) wf_X7_47 rfl rfl rfl rfl (Nat.le_of_ble_eq_true rfl) (fun _ _ => rfl) dX7_isFull_23 ?_
    refine zv_aload_n (pc := 26) B 0 rfl dX7_isFull_26 ?_
    refine zv_get (pc := 27) (v := .int ((zup c 111 12 1) 111 12)) B (zat (by decide) (z111 _ _ _)) cl7 inX7 12 (by decide) wf_X7_47 rfl dX7_isFull_27 ?_
    refine zv_topi (y := 1) (by rw [zup_s]) ?_
    refine zv_if_le (pc := 30) (tgt := 37) B dX7_isFull_30 rfl (fun h9 => absurd h9 (by decide)) (fun _ => ?_)
    refine zv_iconst (pc := 33) (v := 1) B rfl dX7_isFull_33 ?_
    refine zv_goto (pc := 34) (tgt := 38) B rfl dX7_isFull_34 ?_
    have hE8 : (1, zup c 111 12 1) = m_X7_isFull c x := (by unfold m_X7_isFull; rw [if_neg h1])
    exact zv_zret (pc := 38) B (1) rfl hr (fun H hP => ⟨(), ⟨(by rw [(zp2 hE8).1]), (by rw [(zp2 hE8).2]; exact (zfr.up zfr.refl (by omega))), (by rw [(zp2 hE8).2]; exact (zG.up hg (show zn _ ≤ zT9 from zn_T _)))⟩, (by rw [(zp2 hE8).2]; exact hP)⟩) (Nat.le_of_ble_eq_true rfl) (Nat.le_of_ble_eq_true rfl) dX7_isFull_38
