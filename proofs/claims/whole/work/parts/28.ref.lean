def m_X7_heard (c : Nat → Nat → Int32) (x : Int32) : Int32 × (Nat → Nat → Int32) := if (r_X7_in x 0 63) = 0 then (0, zup c 111 12 1) else (if x < (c 111 22) then (c 122 ((zn (c 111 22) - 1 - zn x) % 64), zup c 111 12 0) else (0, zup c 111 12 2))
set_option maxRecDepth 100000 in
set_option maxHeartbeats 400000 in
theorem k_X7_heard (l : Launch) (E : zE) (b : Nat) (c : Nat → Nat → Int32) (w : Nat → Int64) (en : Nat → Nat) (ea : Nat → Nat → Int32) (x : Int32) (ht : zn (c 111 22) < 2 ^ 31) (hg : zG c) : zM l yX7_heard (.code yX7_heard cX7_heard 2 (some .int) :: zAll) (zRm 1 0 0) E b [.ref (b + 111), .int x] (zH E b c w en ea) (fun v9 (_ : Unit) => v9 = some (.int (m_X7_heard c x).1) ∧ zfr 111 112 111 111 c (m_X7_heard c x).2 ∧ zG (m_X7_heard c x).2) (fun _ => zH E b ((m_X7_heard c x).2) w en ea) 0 0 := by
  refine zM_of "ToneGraphModel" (by decide) rfl rfl (Nat.le_of_ble_eq_true rfl) (L0 := [(0, .ref (b + 111)), (1, .int x)]) rfl ?_
  intro p e s m args below meth c9 B hr hname
  refine zv_aload_n (pc := 0) B 0 rfl dX7_heard_0 ?_
  refine zv_iload_n (pc := 1) B 1 rfl dX7_heard_1 ?_
  refine zv_iconst (pc := 2) (v := 0) B rfl dX7_heard_2 ?_
  refine zv_bipush (pc := 3) (v := 63) B rfl dX7_heard_3 ?_
  refine zv_callS (pc := 5) (As := [.int x, .int 0, .int 63]) (rest := [.ref (b + 111)]) B (k_X7_in l E b x 0 63) (zcwS 3 0 B wm_X7_94 ws_X7_in wn_X7 wcode_X7_in (by decide +kernel) ⟨(Nat.le_of_ble_eq_true rfl), (Nat.le_of_ble_eq_true rfl)⟩) rfl zid rfl (Nat.le_of_ble_eq_true rfl) dX7_heard_5 ⟨(Nat.le_of_ble_eq_true rfl), (Nat.le_of_ble_eq_true rfl)⟩ (fun v9 u9 hv9 => ?_)
  subst hv9
  refine zv_st (st' := [.int (r_X7_in x 0 63), .ref (b + 111)]) rfl ?_
  refine zv_if_ne (pc := 8) (tgt := 15) B dX7_heard_8 rfl (fun h1 => ?_) (fun h1 => ?_)
  · refine zv_iload_n (pc := 15) B 1 rfl dX7_heard_15 ?_
    refine zv_aload_n (pc := 16) B 0 rfl dX7_heard_16 ?_
    refine zv_get (pc := 17) (v := .int (c 111 22)) B (zat (by decide) (z111 _ _ _)) cl7 inX7 22 (by decide) wf_X7_78 rfl dX7_heard_17 ?_
    refine zv_icmp_lt (pc := 20) (tgt := 27) B dX7_heard_20 rfl (fun h2 => ?_) (fun h2 => ?_)
    · refine zv_iconst (pc := 27) (v := 0) B rfl dX7_heard_27 ?_
      refine zs_put9 (pc := 28) (f := 12) (F := fun x9 => [.ref (b + 112), .ref (b + 113), .ref (b + 114), .ref (b + 115), .ref (b + 116), .ref (b + 117), .ref (b + 118), .ref (b + 119), .ref (b + 120), .ref (b + 121), .ref (b + 122), .ref (b + 123), .int (x9 12), .int (x9 13), .int (x9 14), .int (x9 15), .int (x9 16), .int (x9 17), .int (x9 18), .int (x9 19), .int (x9 20), .int (x9 21), .int (x9 22), .int (x9 23), .int (x9 24), .long (w 111)]) B zid (by decide) rfl (fun x => z111 x _ _) cl7 inX7 tyX7 tyX7_ok nmX7 (by decide) wf_X7_47 rfl rfl rfl rfl (Nat.le_of_ble_eq_true rfl) (fun _ _ => rfl) dX7_heard_28 ?_
      refine zv_aload_n (pc := 31) B 0 rfl dX7_heard_31 ?_
      refine zv_get (pc := 32) (v := .int ((zup c 111 12 0) 111 12)) B (zat (by decide) (z111 _ _ _)) cl7 inX7 12 (by decide) wf_X7_47 rfl dX7_heard_32 ?_
      refine zv_topi (y := 0) (by rw [zup_s]) ?_
      refine zv_if_le (pc := 35) (tgt := 42) B dX7_heard_35 rfl (fun _ => ?_) (fun h9 => absurd (by decide) h9)
      have hr9 := zn_rng (a := 0) (b' := 63) rfl rfl (by decide) (by decide) (in_ok h1).1 (in_ok h1).2
      have hlt9 := (z_lt (zn_eq x) (zn_eq (c 111 22)) (by omega) (by omega)).mp h2
      refine zv_aload_n (pc := 42) B 0 rfl dX7_heard_42 ?_
      refine zv_get (pc := 43) (v := .ref (b + 122)) B (zat (by decide) (z111 _ _ _)) cl7 inX7 10 (by decide) wf_X7_40 rfl dX7_heard_43 ?_
      refine zv_aload_n (pc := 46) B 0 rfl dX7_heard_46 ?_
      refine zv_get (pc := 47) (v := .int ((zup c 111 12 0) 111 22)) B (zat (by decide) (z111 _ _ _)) cl7 inX7 22 (by decide) wf_X7_78 rfl dX7_heard_47 ?_
      refine zv_topi (y := c 111 22) (by rw [zup_k (k := 12) (k' := 22) _ _ (by decide)]) ?_
      refine zv_iconst (pc := 50) (v := 1) B rfl dX7_heard_50 ?_
      refine zv_isub (pc := 51) B dX7_heard_51 ?_
      refine zv_topi (y := nI (zn (c 111 22) - 1)) (zn_pred (by omega)) ?_
      refine zv_iload_n (pc := 52) B 1 rfl dX7_heard_52 ?_
      refine zv_isub (pc := 53) B dX7_heard_53 ?_
      refine zv_topi (y := nI (zn (c 111 22) - 1 - zn x)) ((by rw [← nI_sub (a := zn (c 111 22) - 1) (b := zn x) (by omega), ← zn_eq x])) ?_
      refine zv_bipush (pc := 54) (v := 64) B rfl dX7_heard_54 ?_
      refine zv_irem (pc := 56) B (by decide) dX7_heard_56 ?_
      refine zv_topi (y := nI ((zn (c 111 22) - 1 - zn x) % 64)) (pk_rem (by omega) (by decide) (by decide)) ?_
      refine zv_iald (pc := 57) (jj := ((zn (c 111 22) - 1 - zn x) % 64)) B (zat (by decide) (z122 _ _ _)) rfl (by omega) (by decide) dX7_heard_57 ?_
      refine zv_topi (y := c 122 ((zn (c 111 22) - 1 - zn x) % 64)) (by rw [zup_i (i := 111) (i' := 122) _ _ _ (by decide)]) ?_
      have hE4 : (c 122 ((zn (c 111 22) - 1 - zn x) % 64), zup c 111 12 0) = m_X7_heard c x := (by unfold m_X7_heard; rw [if_neg h1, if_pos h2])
      exact zv_iret (pc := 58) B (c 122 ((zn (c 111 22) - 1 - zn x) % 64)) hr (fun H hP => ⟨(), ⟨(by rw [(zp2 hE4).1]), (by rw [(zp2 hE4).2]; exact (zfr.up zfr.refl (by omega))), (by rw [(zp2 hE4).2]; exact (zG.up hg (show zn _ ≤ zT9 from zn_T _)))⟩, (by rw [(zp2 hE4).2]; exact hP)⟩) (Nat.le_of_ble_eq_true rfl) (Nat.le_of_ble_eq_true rfl) dX7_heard_58
    · refine zv_iconst (pc := 23) (v := 2) B rfl dX7_heard_23 ?_
      refine zv_goto (pc := 24) (tgt := 28) B rfl dX7_heard_24 ?_
      refine zs_put9 (pc := 28) (f := 12) (F := fun x9 => [.ref (b + 112), .ref (b + 113), .ref (b + 114), .ref (b + 115), .ref (b + 116), .ref (b + 117), .ref (b + 118), .ref (b + 119), .ref (b + 120), .ref (b + 121), .ref (b + 122), .ref (b + 123), .int (x9 12), .int (x9 13), .int (x9 14), .int (x9 15), .int (x9 16), .int (x9 17), .int (x9 18), .int (x9 19), .int (x9 20), .int (x9 21), .int (x9 22), .int (x9 23), .int (x9 24), .long (w 111)]) B zid (by decide) rfl (fun x => z111 x _ _) cl7 inX7 tyX7 tyX7_ok nmX7 (by decide) wf_X7_47 rfl rfl rfl rfl (Nat.le_of_ble_eq_true rfl) (fun _ _ => rfl) dX7_heard_28 ?_
      refine zv_aload_n (pc := 31) B 0 rfl dX7_heard_31 ?_
      refine zv_get (pc := 32) (v := .int ((zup c 111 12 2) 111 12)) B (zat (by decide) (z111 _ _ _)) cl7 inX7 12 (by decide) wf_X7_47 rfl dX7_heard_32 ?_
      refine zv_topi (y := 2) (by rw [zup_s]) ?_
      refine zv_if_le (pc := 35) (tgt := 42) B dX7_heard_35 rfl (fun h9 => absurd h9 (by decide)) (fun _ => ?_)
      refine zv_iconst (pc := 38) (v := 0) B rfl dX7_heard_38 ?_
      refine zv_goto (pc := 39) (tgt := 58) B rfl dX7_heard_39 ?_
      have hE6 : (0, zup c 111 12 2) = m_X7_heard c x := (by unfold m_X7_heard; rw [if_neg h1, if_neg h2])
      exact zv_iret (pc := 58) B (0) hr (fun H hP => ⟨(), ⟨(by rw [(zp2 hE6).1]), (by rw [(zp2 hE6).2]; exact (zfr.up zfr.refl (by omega))), (by rw [(zp2 hE6).2]; exact (zG.up hg (show zn _ ≤ zT9 from zn_T _)))⟩, (by rw [(zp2 hE6).2]; exact hP)⟩) (Nat.le_of_ble_eq_true rfl) (Nat.le_of_ble_eq_true rfl) dX7_heard_58
  · refine zv_iconst (pc := 11) (v := 1) B rfl dX7_heard_11 ?_
    refine zv_goto (pc := 12) (tgt := 28) B rfl dX7_heard_12 ?_
    refine zs_put9 (pc := 28) (f := 12) (F := fun x9 => [.ref (b + 112), .ref (b + 113), .ref (b + 114), .ref (b + 115), .ref (b + 116), .ref (b + 117), .ref (b + 118), .ref (b + 119), .ref (b + 120), .ref (b + 121), .ref (b + 122), .ref (b + 123), .int (x9 12), .int (x9 13), .int (x9 14), .int (x9 15), .int (x9 16), .int (x9 17), .int (x9 18), .int (x9 19), .int (x9 20), .int (x9 21), .int (x9 22), .int (x9 23), .int (x9 24), .long (w 111)]) B zid (by decide) rfl (fun x => z111 x _ _) cl7 inX7 tyX7 tyX7_ok nmX7 (by decide) wf_X7_47 rfl rfl rfl rfl (Nat.le_of_ble_eq_true rfl) (fun _ _ => rfl) dX7_heard_28 ?_
    refine zv_aload_n (pc := 31) B 0 rfl dX7_heard_31 ?_
    refine zv_get (pc := 32) (v := .int ((zup c 111 12 1) 111 12)) B (zat (by decide) (z111 _ _ _)) cl7 inX7 12 (by decide) wf_X7_47 rfl dX7_heard_32 ?_
    refine zv_topi (y := 1) (by rw [zup_s]) ?_
    refine zv_if_le (pc := 35) (tgt := 42) B dX7_heard_35 rfl (fun h9 => absurd h9 (by decide)) (fun _ => ?_)
    refine zv_iconst (pc := 38) (v := 0) B rfl dX7_heard_38 ?_
    refine zv_goto (pc := 39) (tgt := 58) B rfl dX7_heard_39 ?_
    have hE8 : (0, zup c 111 12 1) = m_X7_heard c x := (by unfold m_X7_heard; rw [if_pos h1])
    exact zv_iret (pc := 58) B (0) hr (fun H hP => ⟨(), ⟨(by rw [(zp2 hE8).1]), (by rw [(zp2 hE8).2]; exact (zfr.up zfr.refl (by omega))), (by rw [(zp2 hE8).2]; exact (zG.up hg (show zn _ ≤ zT9 from zn_T _)))⟩, (by rw [(zp2 hE8).2]; exact hP)⟩) (Nat.le_of_ble_eq_true rfl) (Nat.le_of_ble_eq_true rfl) dX7_heard_58
