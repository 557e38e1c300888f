set_option maxRecDepth 100000 in
set_option maxHeartbeats 1000000 in
theorem k_X7_canCome_0 (l : Launch) (E : zE) (b : Nat) {F : Nat → va_E} {f : Nat → Int32} (hF111 : F 111 = .inr (9, [.ref (b + 112), .ref (b + 113), .ref (b + 114), .ref (b + 115), .ref (b + 116), .ref (b + 117), .ref (b + 118), .ref (b + 119), .ref (b + 120), .ref (b + 121), .ref (b + 122), .ref (b + 123), .int 0, .int 1, .int 0, .int 115, .int 0, .int 0, .int 1000, .int 0, .int 0, .int 0, .int 0, .int 0, .int 0, .long 0])) (hF120 : F 120 = .inl (E.2 1, 10, .inl zz0)) (hF123 : F 123 = .inl (E.2 2, 10, .inl f)) (hf : f 0 = 0) : zM l yX7_canCome (.code yX7_canCome cX7_canCome 3 (some .boolean) :: zAll) (zRm 0 0 0) E b [.ref (b + 111), .int 0] (zPic E b 124 F) (fun v9 (_ : Unit) => v9 = some (.int 1)) (fun _ => zPic E b 124 (F)) 0 0 := by
  refine zM_of "ToneGraphModel" (by decide) rfl rfl (Nat.le_of_ble_eq_true rfl) (L0 := [(0, .ref (b + 111)), (1, .int 0)]) rfl ?_
  intro p e s m args below meth c9 B hr hname
  refine zv_aload_n (pc := 0) B 0 rfl dX7_canCome_0 ?_
  refine zv_get (pc := 1) (v := .ref (b + 123)) B (zp_hat (i := 111) (e1 := .inr (9, [.ref (b + 112), .ref (b + 113), .ref (b + 114), .ref (b + 115), .ref (b + 116), .ref (b + 117), .ref (b + 118), .ref (b + 119), .ref (b + 120), .ref (b + 121), .ref (b + 122), .ref (b + 123), .int 0, .int 1, .int 0, .int 115, .int 0, .int 0, .int 1000, .int 0, .int 0, .int 0, .int 0, .int 0, .int 0, .long 0])) (by decide) hF111) cl7 inX7 11 (by decide) wf_X7_43 rfl dX7_canCome_1 ?_
  refine zv_iload_n (pc := 4) B 1 rfl dX7_canCome_4 ?_
  refine zv_zald (pc := 5) (jj := 0) B (zp_hat (i := 123) (by decide) hF123) rfl (by decide) (by decide) dX7_canCome_5 ?_
  refine zv_topi (y := 0) hf ?_
  refine zv_if_eq (pc := 6) (tgt := 11) B dX7_canCome_6 rfl (fun _ => ?_) (fun h9 => absurd (by decide) h9)
  refine zv_iconst (pc := 11) (v := 0) B rfl dX7_canCome_11 ?_
  refine zv_istore_n (pc := 12) (L' := [(2, .int 0), (0, .ref (b + 111)), (1, .int 0)]) B (by decide) rfl dX7_canCome_12 ?_
  refine zv_iload_n (pc := 13) B 0 rfl dX7_canCome_13 ?_
  refine zv_aload_n (pc := 14) B 1 rfl dX7_canCome_14 ?_
  refine zv_get (pc := 15) (v := .ref (b + 120)) B (zp_hat (i := 111) (e1 := .inr (9, [.ref (b + 112), .ref (b + 113), .ref (b + 114), .ref (b + 115), .ref (b + 116), .ref (b + 117), .ref (b + 118), .ref (b + 119), .ref (b + 120), .ref (b + 121), .ref (b + 122), .ref (b + 123), .int 0, .int 1, .int 0, .int 115, .int 0, .int 0, .int 1000, .int 0, .int 0, .int 0, .int 0, .int 0, .int 0, .long 0])) (by decide) hF111) cl7 inX7 8 (by decide) wf_X7_34 rfl dX7_canCome_15 ?_
  refine zv_iload_n (pc := 18) B 2 rfl dX7_canCome_18 ?_
  refine zv_iald (pc := 19) (jj := 0) B (zp_hat (i := 120) (by decide) hF120) rfl (by decide) (by decide) dX7_canCome_19 ?_
  refine zv_topi (y := 0) rfl ?_
  refine zv_icmp_ge (pc := 20) (tgt := 59) B dX7_canCome_20 rfl (fun _ => ?_) (fun h9 => absurd (by decide) h9)
  refine zv_iconst (pc := 59) (v := 1) B rfl dX7_canCome_59 ?_
  exact zv_zret (pc := 60) B (1) rfl hr (fun H hP => ⟨(), rfl, hP.eq (zls (zls (zls (zls (zls (zls (zls (zls (zls (zls (zls (zls (zls (zls (zls (zls (zls (zls (zls (zls (zls (zls (zls (zls (zls (zls (zls (zls (zls (zls (zls (zls (zls (zls (zls (zls (zls (zls (zls (zls (zls (zls (zls (zls (zls (zls (zls (zls (zls (zls (zls (zls (zls (zls (zls (zls (zls (zls (zls (zls (zls (zls (zls (zls (zls (zls (zls (zls (zls (zls (zls (zls (zls (zls (zls (zls (zls (zls (zls (zls (zls (zls (zls (zls (zls (zls (zls (zls (zls (zls (zls (zls (zls (zls (zls (zls (zls (zls (zls (zls (zls (zls (zls (zls (zls (zls (zls (zls (zls (zls (zls (zls (zls (zls (zls (zls (zls (zls (zls (zls (zls (zls (zls (zls zl0 rfl) rfl) rfl) rfl) rfl) rfl) rfl) rfl) rfl) rfl) rfl) rfl) rfl) rfl) rfl) rfl) rfl) rfl) rfl) rfl) rfl) rfl) rfl) rfl) rfl) rfl) rfl) rfl) rfl) rfl) rfl) rfl) rfl) rfl) rfl) rfl) rfl) rfl) rfl) rfl) rfl) rfl) rfl) rfl) rfl) rfl) rfl) rfl) rfl) rfl) rfl) rfl) rfl) rfl) rfl) rfl) rfl) rfl) rfl) rfl) rfl) rfl) rfl) rfl) rfl) rfl) rfl) rfl) rfl) rfl) rfl) rfl) rfl) rfl) rfl) rfl) rfl) rfl) rfl) rfl) rfl) rfl) rfl) rfl) rfl) rfl) rfl) rfl) rfl) rfl) rfl) rfl) rfl) rfl) rfl) rfl) rfl) rfl) rfl) rfl) rfl) rfl) rfl) rfl) rfl) rfl) rfl) rfl) rfl) rfl) rfl) rfl) rfl) rfl) rfl) rfl) rfl) rfl) rfl) rfl) rfl) rfl) rfl) rfl)⟩) (Nat.le_of_ble_eq_true rfl) (Nat.le_of_ble_eq_true rfl) dX7_canCome_60
set_option maxRecDepth 100000 in
set_option maxHeartbeats 1000000 in
theorem k_X7_lays_0 (l : Launch) (E : zE) (b : Nat) {F : Nat → va_E} (hF111 : F 111 = .inr (9, [.ref (b + 112), .ref (b + 113), .ref (b + 114), .ref (b + 115), .ref (b + 116), .ref (b + 117), .ref (b + 118), .ref (b + 119), .ref (b + 120), .ref (b + 121), .ref (b + 122), .ref (b + 123), .int 0, .int 1, .int 0, .int 115, .int 0, .int 0, .int 1000, .int 0, .int 0, .int 0, .int 0, .int 0, .int 0, .long 0])) (hF120 : F 120 = .inl (E.2 1, 10, .inl zz0)) (hF121 : F 121 = .inl (E.2 1, 10, .inl zz0)) (hF123 : F 123 = .inl (E.2 2, 10, .inl zz0)) : zM l yX7_lays (.code yX7_lays cX7_lays 3 none :: zAll) (zRm 1 0 0) E b [.ref (b + 111)] (zPic E b 124 F) (fun v9 (_ : Unit) => v9 = none) (fun _ => zPic E b 124 (va_up (va_up F 121 (.inl (E.2 1, 10, .inl zz0))) 123 (.inl (E.2 2, 10, .inl (c0 123))))) 0 0 := by
  refine zM_of "ToneGraphModel" (by decide) rfl rfl (Nat.le_of_ble_eq_true rfl) (L0 := [(0, .ref (b + 111))]) rfl ?_
  intro p e s m args below meth c9 B hr hname
  refine zv_iconst (pc := 0) (v := 0) B rfl dX7_lays_0 ?_
  refine zv_istore_n (pc := 1) (L' := [(1, .int 0), (0, .ref (b + 111))]) B (by decide) rfl dX7_lays_1 ?_
  refine zv_iload_n (pc := 2) B 0 rfl dX7_lays_2 ?_
  refine zv_bipush (pc := 3) (v := 10) B rfl dX7_lays_3 ?_
  refine zv_icmp_ge (pc := 5) (tgt := 21) B dX7_lays_5 rfl (fun h9 => absurd h9 (by decide)) (fun _ => ?_)
  refine zv_aload_n (pc := 8) B 1 rfl dX7_lays_8 ?_
  refine zv_get (pc := 9) (v := .ref (b + 123)) B (zp_hat (i := 111) (e1 := .inr (9, [.ref (b + 112), .ref (b + 113), .ref (b + 114), .ref (b + 115), .ref (b + 116), .ref (b + 117), .ref (b + 118), .ref (b + 119), .ref (b + 120), .ref (b + 121), .ref (b + 122), .ref (b + 123), .int 0, .int 1, .int 0, .int 115, .int 0, .int 0, .int 1000, .int 0, .int 0, .int 0, .int 0, .int 0, .int 0, .long 0])) (by decide) hF111) cl7 inX7 11 (by decide) wf_X7_43 rfl dX7_lays_9 ?_
  refine zv_iload_n (pc := 12) B 0 rfl dX7_lays_12 ?_
  refine zv_iconst (pc := 13) (v := 0) B rfl dX7_lays_13 ?_
  refine zp_zast (i := 123) (jj := 0) B (by decide) hF123 rfl (by decide) (by decide) rfl dX7_lays_14 ?_
  refine zv_iinc (pc := 15) (v := 1) (L' := [(1, .int 1), (0, .ref (b + 111))]) B 0 rfl rfl (by decide) rfl dX7_lays_15 ?_
  refine zv_goto (pc := 18) (tgt := 2) B rfl dX7_lays_18 ?_
  refine zv_iload_n (pc := 2) B 0 rfl dX7_lays_2 ?_
  refine zv_bipush (pc := 3) (v := 10) B rfl dX7_lays_3 ?_
  refine zv_icmp_ge (pc := 5) (tgt := 21) B dX7_lays_5 rfl (fun h9 => absurd h9 (by decide)) (fun _ => ?_)
  refine zv_aload_n (pc := 8) B 1 rfl dX7_lays_8 ?_
  refine zv_get (pc := 9) (v := .ref (b + 123)) B (zp_hat (i := 111) (e1 := .inr (9, [.ref (b + 112), .ref (b + 113), .ref (b + 114), .ref (b + 115), .ref (b + 116), .ref (b + 117), .ref (b + 118), .ref (b + 119), .ref (b + 120), .ref (b + 121), .ref (b + 122), .ref (b + 123), .int 0, .int 1, .int 0, .int 115, .int 0, .int 0, .int 1000, .int 0, .int 0, .int 0, .int 0, .int 0, .int 0, .long 0])) (by decide) hF111) cl7 inX7 11 (by decide) wf_X7_43 rfl dX7_lays_9 ?_
  refine zv_iload_n (pc := 12) B 0 rfl dX7_lays_12 ?_
  refine zv_iconst (pc := 13) (v := 0) B rfl dX7_lays_13 ?_
  refine zp_zast (i := 123) (jj := 1) B (by decide) rfl rfl (by decide) (by decide) rfl dX7_lays_14 ?_
  refine zv_iinc (pc := 15) (v := 2) (L' := [(1, .int 2), (0, .ref (b + 111))]) B 0 rfl rfl (by decide) rfl dX7_lays_15 ?_
  refine zv_goto (pc := 18) (tgt := 2) B rfl dX7_lays_18 ?_
  refine zv_iload_n (pc := 2) B 0 rfl dX7_lays_2 ?_
  refine zv_bipush (pc := 3) (v := 10) B rfl dX7_lays_3 ?_
  refine zv_icmp_ge (pc := 5) (tgt := 21) B dX7_lays_5 rfl (fun h9 => absurd h9 (by decide)) (fun _ => ?_)
  refine zv_aload_n (pc := 8) B 1 rfl dX7_lays_8 ?_
  refine zv_get (pc := 9) (v := .ref (b + 123)) B (zp_hat (i := 111) (e1 := .inr (9, [.ref (b + 112), .ref (b + 113), .ref (b + 114), .ref (b + 115), .ref (b + 116), .ref (b + 117), .ref (b + 118), .ref (b + 119), .ref (b + 120), .ref (b + 121), .ref (b + 122), .ref (b + 123), .int 0, .int 1, .int 0, .int 115, .int 0, .int 0, .int 1000, .int 0, .int 0, .int 0, .int 0, .int 0, .int 0, .long 0])) (by decide) hF111) cl7 inX7 11 (by decide) wf_X7_43 rfl dX7_lays_9 ?_
  refine zv_iload_n (pc := 12) B 0 rfl dX7_lays_12 ?_
  refine zv_iconst (pc := 13) (v := 0) B rfl dX7_lays_13 ?_
  refine zp_zast (i := 123) (jj := 2) B (by decide) rfl rfl (by decide) (by decide) rfl dX7_lays_14 ?_
  refine zv_iinc (pc := 15) (v := 3) (L' := [(1, .int 3), (0, .ref (b + 111))]) B 0 rfl rfl (by decide) rfl dX7_lays_15 ?_
  refine zv_goto (pc := 18) (tgt := 2) B rfl dX7_lays_18 ?_
  refine zv_iload_n (pc := 2) B 0 rfl dX7_lays_2 ?_
  refine zv_bipush (pc := 3) (v := 10) B rfl dX7_lays_3 ?_
  refine zv_icmp_ge (pc := 5) (tgt := 21) B dX7_lays_5 rfl (fun h9 => absurd h9 (by decide)) (fun _ => ?_)
  refine zv_aload_n (pc := 8) B 1 rfl dX7_lays_8 ?_
  refine zv_get (pc := 9) (v := .ref (b + 123)) B (zp_hat (i := 111) (e1 := .inr (9, [.ref (b + 112), .ref (b + 113), .ref (b + 114), .ref (b + 115), .ref (b + 116), .ref (b + 117), .ref (b + 118), .ref (b + 119), .ref (b + 120), .ref (b + 121), .ref (b + 122), .ref (b + 123), .int 0, .int 1, .int 0, .int 115, .int 0, .int 0, .int 1000, .int 0, .int 0, .int 0, .int 0, .int 0, .int 0, .long 0])) (by decide) hF111) cl7 inX7 11 (by decide) wf_X7_43 rfl dX7_lays_9 ?_
  refine zv_iload_n (pc := 12) B 0 rfl dX7_lays_12 ?_
  refine zv_iconst (pc := 13) (v := 0) B rfl dX7_lays_13 ?_
  refine zp_zast (i := 123) (jj := 3) B (by decide) rfl rfl (by decide) (by decide) rfl dX7_lays_14 ?_
  refine zv_iinc (pc := 15) (v := 4) (L' := [(1, .int 4), (0, .ref (b + 111))]) B 0 rfl rfl (by decide) rfl dX7_lays_15 ?_
  refine zv_goto (pc := 18) (tgt := 2) B rfl dX7_lays_18 ?_
  refine zv_iload_n (pc := 2) B 0 rfl dX7_lays_2 ?_
  refine zv_bipush (pc := 3) (v := 10) B rfl dX7_lays_3 ?_
  refine zv_icmp_ge (pc := 5) (tgt := 21) B dX7_lays_5 rfl (fun h9 => absurd h9 (by decide)) (fun _ => ?_)
  refine zv_aload_n (pc := 8) B 1 rfl dX7_lays_8 ?_
  refine zv_get (pc := 9) (v := .ref (b + 123)) B (zp_hat (i := 111) (e1 := .inr (9, [.ref (b + 112), .ref (b + 113), .ref (b + 114), .ref (b + 115), .ref (b + 116), .ref (b + 117), .ref (b + 118), .ref (b + 119), .ref (b + 120), .ref (b + 121), .ref (b + 122), .ref (b + 123), .int 0, .int 1, .int 0, .int 115, .int 0, .int 0, .int 1000, .int 0, .int 0, .int 0, .int 0, .int 0, .int 0, .long 0])) (by decide) hF111) cl7 inX7 11 (by decide) wf_X7_43 rfl dX7_lays_9 ?_
  refine zv_iload_n (pc := 12) B 0 rfl dX7_lays_12 ?_
  refine zv_iconst (pc := 13) (v := 0) B rfl dX7_lays_13 ?_
  refine zp_zast (i := 123) (jj := 4) B (by decide) rfl rfl (by decide) (by decide) rfl dX7_lays_14 ?_
  refine zv_iinc (pc := 15) (v := 5) (L' := [(1, .int 5), (0, .ref (b + 111))]) B 0 rfl rfl (by decide) rfl dX7_lays_15 ?_
  refine zv_goto (pc := 18) (tgt := 2) B rfl dX7_lays_18 ?_
  refine zv_iload_n (pc := 2) B 0 rfl dX7_lays_2 ?_
  refine zv_bipush (pc := 3) (v := 10) B rfl dX7_lays_3 ?_
  refine zv_icmp_ge (pc := 5) (tgt := 21) B dX7_lays_5 rfl (fun h9 => absurd h9 (by decide)) (fun _ => ?_)
  refine zv_aload_n (pc := 8) B 1 rfl dX7_lays_8 ?_
  refine zv_get (pc := 9) (v := .ref (b + 123)) B (zp_hat (i := 111) (e1 := .inr (9, [.ref (b + 112), .ref (b + 113), .ref (b + 114), .ref (b + 115), .ref (b + 116), .ref (b + 117), .ref (b + 118), .ref (b + 119), .ref (b + 120), .ref (b + 121), .ref (b + 122), .ref (b + 123), .int 0, .int 1, .int 0, .int 115, .int 0, .int 0, .int 1000, .int 0, .int 0, .int 0, .int 0, .int 0, .int 0, .long 0])) (by decide) hF111) cl7 inX7 11 (by decide) wf_X7_43 rfl dX7_lays_9 ?_
  refine zv_iload_n (pc := 12) B 0 rfl dX7_lays_12 ?_
  refine zv_iconst (pc := 13) (v := 0) B rfl dX7_lays_13 ?_
  refine zp_zast (i := 123) (jj := 5) B (by decide) rfl rfl (by decide) (by decide) rfl dX7_lays_14 ?_
  refine zv_iinc (pc := 15) (v := 6) (L' := [(1, .int 6), (0, .ref (b + 111))]) B 0 rfl rfl (by decide) rfl dX7_lays_15 ?_
  refine zv_goto (pc := 18) (tgt := 2) B rfl dX7_lays_18 ?_
  refine zv_iload_n (pc := 2) B 0 rfl dX7_lays_2 ?_
  refine zv_bipush (pc := 3) (v := 10) B rfl dX7_lays_3 ?_
  refine zv_icmp_ge (pc := 5) (tgt := 21) B dX7_lays_5 rfl (fun h9 => absurd h9 (by decide)) (fun _ => ?_)
  refine zv_aload_n (pc := 8) B 1 rfl dX7_lays_8 ?_
  refine zv_get (pc := 9) (v := .ref (b + 123)) B (zp_hat (i := 111) (e1 := .inr (9, [.ref (b + 112), .ref (b + 113), .ref (b + 114), .ref (b + 115), .ref (b + 116), .ref (b + 117), .ref (b + 118), .ref (b + 119), .ref (b + 120), .ref (b + 121), .ref (b + 122), .ref (b + 123), .int 0, .int 1, .int 0, .int 115, .int 0, .int 0, .int 1000, .int 0, .int 0, .int 0, .int 0, .int 0, .int 0, .long 0])) (by decide) hF111) cl7 inX7 11 (by decide) wf_X7_43 rfl dX7_lays_9 ?_
  refine zv_iload_n (pc := 12) B 0 rfl dX7_lays_12 ?_
  refine zv_iconst (pc := 13) (v := 0) B rfl dX7_lays_13 ?_
  refine zp_zast (i := 123) (jj := 6) B (by decide) rfl rfl (by decide) (by decide) rfl dX7_lays_14 ?_
  refine zv_iinc (pc := 15) (v := 7) (L' := [(1, .int 7), (0, .ref (b + 111))]) B 0 rfl rfl (by decide) rfl dX7_lays_15 ?_
  refine zv_goto (pc := 18) (tgt := 2) B rfl dX7_lays_18 ?_
  refine zv_iload_n (pc := 2) B 0 rfl dX7_lays_2 ?_
  refine zv_bipush (pc := 3) (v := 10) B rfl dX7_lays_3 ?_
  refine zv_icmp_ge (pc := 5) (tgt := 21) B dX7_lays_5 rfl (fun h9 => absurd h9 (by decide)) (fun _ => ?_)
  refine zv_aload_n (pc := 8) B 1 rfl dX7_lays_8 ?_
  refine zv_get (pc := 9) (v := .ref (b + 123)) B (zp_hat (i := 111) (e1 := .inr (9, [.ref (b + 112), .ref (b + 113), .ref (b + 114), .ref (b + 115), .ref (b + 116), .ref (b + 117), .ref (b + 118), .ref (b + 119), .ref (b + 120), .ref (b + 121), .ref (b + 122), .ref (b + 123), .int 0, .int 1, .int 0, .int 115, .int 0, .int 0, .int 1000, .int 0, .int 0, .int 0, .int 0, .int 0, .int 0, .long 0])) (by decide) hF111) cl7 inX7 11 (by decide) wf_X7_43 rfl dX7_lays_9 ?_
  refine zv_iload_n (pc := 12) B 0 rfl dX7_lays_12 ?_
  refine zv_iconst (pc := 13) (v := 0) B rfl dX7_lays_13 ?_
  refine zp_zast (i := 123) (jj := 7) B (by decide) rfl rfl (by decide) (by decide) rfl dX7_lays_14 ?_
  refine zv_iinc (pc := 15) (v := 8) (L' := [(1, .int 8), (0, .ref (b + 111))]) B 0 rfl rfl (by decide) rfl dX7_lays_15 ?_
  refine zv_goto (pc := 18) (tgt := 2) B rfl dX7_lays_18 ?_
  refine zv_iload_n (pc := 2) B 0 rfl dX7_lays_2 ?_
  refine zv_bipush (pc := 3) (v := 10) B rfl dX7_lays_3 ?_
  refine zv_icmp_ge (pc := 5) (tgt := 21) B dX7_lays_5 rfl (fun h9 => absurd h9 (by decide)) (fun _ => ?_)
  refine zv_aload_n (pc := 8) B 1 rfl dX7_lays_8 ?_
  refine zv_get (pc := 9) (v := .ref (b + 123)) B (zp_hat (i := 111) (e1 := .inr (9, [.ref (b + 112), .ref (b + 113), .ref (b + 114), .ref (b + 115), .ref (b + 116), .ref (b + 117), .ref (b + 118), .ref (b + 119), .ref (b + 120), .ref (b + 121), .ref (b + 122), .ref (b + 123), .int 0, .int 1, .int 0, .int 115, .int 0, .int 0, .int 1000, .int 0, .int 0, .int 0, .int 0, .int 0, .int 0, .long 0])) (by decide) hF111) cl7 inX7 11 (by decide) wf_X7_43 rfl dX7_lays_9 ?_
  refine zv_iload_n (pc := 12) B 0 rfl dX7_lays_12 ?_
  refine zv_iconst (pc := 13) (v := 0) B rfl dX7_lays_13 ?_
  refine zp_zast (i := 123) (jj := 8) B (by decide) rfl rfl (by decide) (by decide) rfl dX7_lays_14 ?_
  refine zv_iinc (pc := 15) (v := 9) (L' := [(1, .int 9), (0, .ref (b + 111))]) B 0 rfl rfl (by decide) rfl dX7_lays_15 ?_
  refine zv_goto (pc := 18) (tgt := 2) B rfl dX7_lays_18 ?_
  refine zv_iload_n (pc := 2) B 0 rfl dX7_lays_2 ?_
  refine zv_bipush (pc := 3) (v := 10) B rfl dX7_lays_3 ?_
  refine zv_icmp_ge (pc := 5) (tgt := 21) B dX7_lays_5 rfl (fun h9 => absurd h9 (by decide)) (fun _ => ?_)
  refine zv_aload_n (pc := 8) B 1 rfl dX7_lays_8 ?_
  refine zv_get (pc := 9) (v := .ref (b + 123)) B (zp_hat (i := 111) (e1 := .inr (9, [.ref (b + 112), .ref (b + 113), .ref (b + 114), .ref (b + 115), .ref (b + 116), .ref (b + 117), .ref (b + 118), .ref (b + 119), .ref (b + 120), .ref (b + 121), .ref (b + 122), .ref (b + 123), .int 0, .int 1, .int 0, .int 115, .int 0, .int 0, .int 1000, .int 0, .int 0, .int 0, .int 0, .int 0, .int 0, .long 0])) (by decide) hF111) cl7 inX7 11 (by decide) wf_X7_43 rfl dX7_lays_9 ?_
  refine zv_iload_n (pc := 12) B 0 rfl dX7_lays_12 ?_
  refine zv_iconst (pc := 13) (v := 0) B rfl dX7_lays_13 ?_
  refine zp_zast (i := 123) (jj := 9) B (by decide) rfl rfl (by decide) (by decide) rfl dX7_lays_14 ?_
  refine zv_iinc (pc := 15) (v := 10) (L' := [(1, .int 10), (0, .ref (b + 111))]) B 0 rfl rfl (by decide) rfl dX7_lays_15 ?_
  refine zv_goto (pc := 18) (tgt := 2) B rfl dX7_lays_18 ?_
  refine zv_iload_n (pc := 2) B 0 rfl dX7_lays_2 ?_
  refine zv_bipush (pc := 3) (v := 10) B rfl dX7_lays_3 ?_
  refine zv_icmp_ge (pc := 5) (tgt := 21) B dX7_lays_5 rfl (fun _ => ?_) (fun h9 => absurd (by decide) h9)
  refine zv_iconst (pc := 21) (v := 0) B rfl dX7_lays_21 ?_
  refine zv_istore_n (pc := 22) (L' := [(1, .int 0), (0, .ref (b + 111))]) B (by decide) rfl dX7_lays_22 ?_
  refine zv_iload_n (pc := 23) B 0 rfl dX7_lays_23 ?_
  refine zv_aload_n (pc := 24) B 1 rfl dX7_lays_24 ?_
  refine zv_get (pc := 25) (v := .int 1) B (zp_hat (i := 111) (e1 := .inr (9, [.ref (b + 112), .ref (b + 113), .ref (b + 114), .ref (b + 115), .ref (b + 116), .ref (b + 117), .ref (b + 118), .ref (b + 119), .ref (b + 120), .ref (b + 121), .ref (b + 122), .ref (b + 123), .int 0, .int 1, .int 0, .int 115, .int 0, .int 0, .int 1000, .int 0, .int 0, .int 0, .int 0, .int 0, .int 0, .long 0])) (by decide) hF111) cl7 inX7 13 (by decide) wf_X7_51 rfl dX7_lays_25 ?_
  refine zv_icmp_ge (pc := 28) (tgt := 67) B dX7_lays_28 rfl (fun h9 => absurd h9 (by decide)) (fun _ => ?_)
  refine zv_iconst (pc := 31) (v := 0) B rfl dX7_lays_31 ?_
  refine zv_istore_n (pc := 32) (L' := [(2, .int 0), (1, .int 0), (0, .ref (b + 111))]) B (by decide) rfl dX7_lays_32 ?_
  refine zv_aload_n (pc := 33) B 2 rfl dX7_lays_33 ?_
  refine zv_iload_n (pc := 34) B 0 rfl dX7_lays_34 ?_
  refine zv_callV (pc := 35) (As := [.int 0]) (rest := []) B (k_X7_canCome_0 l E b (F := (va_up (va_up (va_up (va_up (va_up (va_up (va_up (va_up (va_up (va_up F 123 (.inl (E.2 2, 10, .inl (upd zz0 0 0)))) 123 (.inl (E.2 2, 10, .inl (upd (upd zz0 0 0) 1 0)))) 123 (.inl (E.2 2, 10, .inl (upd (upd (upd zz0 0 0) 1 0) 2 0)))) 123 (.inl (E.2 2, 10, .inl (upd (upd (upd (upd zz0 0 0) 1 0) 2 0) 3 0)))) 123 (.inl (E.2 2, 10, .inl (upd (upd (upd (upd (upd zz0 0 0) 1 0) 2 0) 3 0) 4 0)))) 123 (.inl (E.2 2, 10, .inl (upd (upd (upd (upd (upd (upd zz0 0 0) 1 0) 2 0) 3 0) 4 0) 5 0)))) 123 (.inl (E.2 2, 10, .inl (upd (upd (upd (upd (upd (upd (upd zz0 0 0) 1 0) 2 0) 3 0) 4 0) 5 0) 6 0)))) 123 (.inl (E.2 2, 10, .inl (upd (upd (upd (upd (upd (upd (upd (upd zz0 0 0) 1 0) 2 0) 3 0) 4 0) 5 0) 6 0) 7 0)))) 123 (.inl (E.2 2, 10, .inl (upd (upd (upd (upd (upd (upd (upd (upd (upd zz0 0 0) 1 0) 2 0) 3 0) 4 0) 5 0) 6 0) 7 0) 8 0)))) 123 (.inl (E.2 2, 10, .inl (upd (upd (upd (upd (upd (upd (upd (upd (upd (upd zz0 0 0) 1 0) 2 0) 3 0) 4 0) 5 0) 6 0) 7 0) 8 0) 9 0))))) (f := (upd (upd (upd (upd (upd (upd (upd (upd (upd (upd zz0 0 0) 1 0) 2 0) 3 0) 4 0) 5 0) 6 0) 7 0) 8 0) 9 0)) hF111 hF120 rfl rfl) (zcwV 1 0 B wm_X7_118 wi_X7_canCome wv_X7_canCome wn_X7 wcode_X7_canCome rfl (by decide +kernel) ⟨(Nat.le_of_ble_eq_true rfl), (Nat.le_of_ble_eq_true rfl)⟩) rfl (zrecv B (zp_hat (i := 111) (e1 := .inr (9, [.ref (b + 112), .ref (b + 113), .ref (b + 114), .ref (b + 115), .ref (b + 116), .ref (b + 117), .ref (b + 118), .ref (b + 119), .ref (b + 120), .ref (b + 121), .ref (b + 122), .ref (b + 123), .int 0, .int 1, .int 0, .int 115, .int 0, .int 0, .int 1000, .int 0, .int 0, .int 0, .int 0, .int 0, .int 0, .long 0])) (by decide) hF111) cl7) (fun H h => h) rfl (Nat.le_of_ble_eq_true rfl) dX7_lays_35 ⟨(Nat.le_of_ble_eq_true rfl), (Nat.le_of_ble_eq_true rfl)⟩ (fun v9 u9 hv9 => ?_)
  subst hv9
  refine zv_st (st' := [.int 1]) rfl ?_
  refine zv_if_ne (pc := 38) (tgt := 47) B dX7_lays_38 rfl (fun _ => ?_) (fun h9 => absurd h9 (by decide))
  refine zv_aload_n (pc := 47) B 2 rfl dX7_lays_47 ?_
  refine zv_get (pc := 48) (v := .ref (b + 123)) B (zp_hat (i := 111) (e1 := .inr (9, [.ref (b + 112), .ref (b + 113), .ref (b + 114), .ref (b + 115), .ref (b + 116), .ref (b + 117), .ref (b + 118), .ref (b + 119), .ref (b + 120), .ref (b + 121), .ref (b + 122), .ref (b + 123), .int 0, .int 1, .int 0, .int 115, .int 0, .int 0, .int 1000, .int 0, .int 0, .int 0, .int 0, .int 0, .int 0, .long 0])) (by decide) hF111) cl7 inX7 11 (by decide) wf_X7_43 rfl dX7_lays_48 ?_
  refine zv_iload_n (pc := 51) B 0 rfl dX7_lays_51 ?_
  refine zv_iconst (pc := 52) (v := 1) B rfl dX7_lays_52 ?_
  refine zp_zast (i := 123) (jj := 0) B (by decide) rfl rfl (by decide) (by decide) rfl dX7_lays_53 ?_
  refine zv_aload_n (pc := 54) B 2 rfl dX7_lays_54 ?_
  refine zv_get (pc := 55) (v := .ref (b + 121)) B (zp_hat (i := 111) (e1 := .inr (9, [.ref (b + 112), .ref (b + 113), .ref (b + 114), .ref (b + 115), .ref (b + 116), .ref (b + 117), .ref (b + 118), .ref (b + 119), .ref (b + 120), .ref (b + 121), .ref (b + 122), .ref (b + 123), .int 0, .int 1, .int 0, .int 115, .int 0, .int 0, .int 1000, .int 0, .int 0, .int 0, .int 0, .int 0, .int 0, .long 0])) (by decide) hF111) cl7 inX7 9 (by decide) wf_X7_37 rfl dX7_lays_55 ?_
  refine zv_iload_n (pc := 58) B 1 rfl dX7_lays_58 ?_
  refine zv_iload_n (pc := 59) B 0 rfl dX7_lays_59 ?_
  refine zp_iast (i := 121) (jj := 0) B (by decide) hF121 rfl (by decide) (by decide) dX7_lays_60 ?_
  refine zv_iinc (pc := 61) (v := 1) (L' := [(1, .int 1), (2, .int 0), (0, .ref (b + 111))]) B 1 rfl rfl (by decide) rfl dX7_lays_61 ?_
  refine zv_goto (pc := 64) (tgt := 23) B rfl dX7_lays_64 ?_
  refine zv_iload_n (pc := 23) B 0 rfl dX7_lays_23 ?_
  refine zv_aload_n (pc := 24) B 2 rfl dX7_lays_24 ?_
  refine zv_get (pc := 25) (v := .int 1) B (zp_hat (i := 111) (e1 := .inr (9, [.ref (b + 112), .ref (b + 113), .ref (b + 114), .ref (b + 115), .ref (b + 116), .ref (b + 117), .ref (b + 118), .ref (b + 119), .ref (b + 120), .ref (b + 121), .ref (b + 122), .ref (b + 123), .int 0, .int 1, .int 0, .int 115, .int 0, .int 0, .int 1000, .int 0, .int 0, .int 0, .int 0, .int 0, .int 0, .long 0])) (by decide) hF111) cl7 inX7 13 (by decide) wf_X7_51 rfl dX7_lays_25 ?_
  refine zv_icmp_ge (pc := 28) (tgt := 67) B dX7_lays_28 rfl (fun _ => ?_) (fun h9 => absurd (by decide) h9)
  exact zv_vret (pc := 67) B hr (fun H hP => ⟨(), rfl, hP.eq (zls (zls (zls (zls (zls (zls (zls (zls (zls (zls (zls (zls (zls (zls (zls (zls (zls (zls (zls (zls (zls (zls (zls (zls (zls (zls (zls (zls (zls (zls (zls (zls (zls (zls (zls (zls (zls (zls (zls (zls (zls (zls (zls (zls (zls (zls (zls (zls (zls (zls (zls (zls (zls (zls (zls (zls (zls (zls (zls (zls (zls (zls (zls (zls (zls (zls (zls (zls (zls (zls (zls (zls (zls (zls (zls (zls (zls (zls (zls (zls (zls (zls (zls (zls (zls (zls (zls (zls (zls (zls (zls (zls (zls (zls (zls (zls (zls (zls (zls (zls (zls (zls (zls (zls (zls (zls (zls (zls (zls (zls (zls (zls (zls (zls (zls (zls (zls (zls (zls (zls (zls (zls (zls (zls zl0 rfl) rfl) rfl) rfl) rfl) rfl) rfl) rfl) rfl) rfl) rfl) rfl) rfl) rfl) rfl) rfl) rfl) rfl) rfl) rfl) rfl) rfl) rfl) rfl) rfl) rfl) rfl) rfl) rfl) rfl) rfl) rfl) rfl) rfl) rfl) rfl) rfl) rfl) rfl) rfl) rfl) rfl) rfl) rfl) rfl) rfl) rfl) rfl) rfl) rfl) rfl) rfl) rfl) rfl) rfl) rfl) rfl) rfl) rfl) rfl) rfl) rfl) rfl) rfl) rfl) rfl) rfl) rfl) rfl) rfl) rfl) rfl) rfl) rfl) rfl) rfl) rfl) rfl) rfl) rfl) rfl) rfl) rfl) rfl) rfl) rfl) rfl) rfl) rfl) rfl) rfl) rfl) rfl) rfl) rfl) rfl) rfl) rfl) rfl) rfl) rfl) rfl) rfl) rfl) rfl) rfl) rfl) rfl) rfl) rfl) rfl) rfl) rfl) rfl) rfl) rfl) rfl) rfl) rfl) rfl) rfl) (congrArg (fun f => (.inl (E.2 1, 10, .inl f) : va_E)) (funext fun j => by simp [upd, zz0, c0]))) rfl) (congrArg (fun f => (.inl (E.2 2, 10, .inl f) : va_E)) (funext fun j => by simp [upd, zz0, c0])))⟩) (Nat.le_of_ble_eq_true rfl) (Nat.le_of_ble_eq_true rfl) dX7_lays_67
set_option maxRecDepth 100000 in
set_option maxHeartbeats 1000000 in
theorem k_X7_init_111 (l : Launch) (E : zE) (b : Nat) {F : Nat → va_E} (hF111 : F 111 = .inr (9, [.null, .null, .null, .null, .null, .null, .null, .null, .null, .null, .null, .null, .int 0, .int 0, .int 0, .int 0, .int 0, .int 0, .int 0, .int 0, .int 0, .int 0, .int 0, .int 0, .int 0, .long 0])) : zM l yX7_init (.code yX7_init cX7_init 1 none :: zAll) (zRm 2 12 1622) E b [.ref (b + 111)] (zPic E b 112 F) (fun v9 (_ : Unit) => v9 = none) (fun _ => zPic E b 124 (zfill E b 111 124 F)) 12 1622 := by
  refine zM_of "ToneGraphModel" (by decide) rfl rfl (Nat.le_of_ble_eq_true rfl) (L0 := [(0, .ref (b + 111))]) rfl ?_
  intro p e s m args below meth c9 B hr hname
  refine zv_aload_n (pc := 0) B 0 rfl dX7_init_0 ?_
  refine zp_objI B wm_X7_1 wi_Object_init wcode_Object_init dX7_init_1 (Nat.le_of_ble_eq_true rfl) (Nat.le_of_ble_eq_true rfl) ?_
  refine zv_aload_n (pc := 4) B 0 rfl dX7_init_4 ?_
  refine zv_sipush (pc := 5) (v := 704) B rfl dX7_init_5 ?_
  refine zp_newa (t0 := 1) (cA := E.2 1) (a0 := (704, .inl zz0)) (atype := .int) (N := 704) B wa_int rfl (fun C h => by cases h) (by rw [vp_cell_i]; rfl) (by decide) (by decide) (Nat.le_of_ble_eq_true rfl) (K1 := 113) rfl (Nat.le_of_ble_eq_true rfl) (Nat.le_of_ble_eq_true rfl) dX7_init_8 ?_
  refine zp_putF (i := 111) (f := 0) (fs := [.null, .null, .null, .null, .null, .null, .null, .null, .null, .null, .null, .null, .int 0, .int 0, .int 0, .int 0, .int 0, .int 0, .int 0, .int 0, .int 0, .int 0, .int 0, .int 0, .int 0, .long 0]) B hname (by decide) hF111 cl7 inX7 tyX7 tyX7_ok nmX7 (by decide) wf_X7_7 rfl rfl rfl rfl rfl (Nat.le_of_ble_eq_true rfl) dX7_init_10 ?_
  refine zv_aload_n (pc := 13) B 0 rfl dX7_init_13 ?_
  refine zv_sipush (pc := 14) (v := 704) B rfl dX7_init_14 ?_
  refine zp_newa (t0 := 1) (cA := E.2 1) (a0 := (704, .inl zz0)) (atype := .int) (N := 704) B wa_int rfl (fun C h => by cases h) (by rw [vp_cell_i]; rfl) (by decide) (by decide) (Nat.le_of_ble_eq_true rfl) (K1 := 114) rfl (Nat.le_of_ble_eq_true rfl) (Nat.le_of_ble_eq_true rfl) dX7_init_17 ?_
  refine zp_putF (i := 111) (f := 1) (fs := [.ref (b + 112), .null, .null, .null, .null, .null, .null, .null, .null, .null, .null, .null, .int 0, .int 0, .int 0, .int 0, .int 0, .int 0, .int 0, .int 0, .int 0, .int 0, .int 0, .int 0, .int 0, .long 0]) B hname (by decide) rfl cl7 inX7 tyX7 tyX7_ok nmX7 (by decide) wf_X7_13 rfl rfl rfl rfl rfl (Nat.le_of_ble_eq_true rfl) dX7_init_19 ?_
  refine zv_aload_n (pc := 22) B 0 rfl dX7_init_22 ?_
  refine zv_bipush (pc := 23) (v := 10) B rfl dX7_init_23 ?_
  refine zp_newa (t0 := 1) (cA := E.2 1) (a0 := (10, .inl zz0)) (atype := .int) (N := 10) B wa_int rfl (fun C h => by cases h) (by rw [vp_cell_i]; rfl) (by decide) (by decide) (Nat.le_of_ble_eq_true rfl) (K1 := 115) rfl (Nat.le_of_ble_eq_true rfl) (Nat.le_of_ble_eq_true rfl) dX7_init_25 ?_
  refine zp_putF (i := 111) (f := 2) (fs := [.ref (b + 112), .ref (b + 113), .null, .null, .null, .null, .null, .null, .null, .null, .null, .null, .int 0, .int 0, .int 0, .int 0, .int 0, .int 0, .int 0, .int 0, .int 0, .int 0, .int 0, .int 0, .int 0, .long 0]) B hname (by decide) rfl cl7 inX7 tyX7 tyX7_ok nmX7 (by decide) wf_X7_16 rfl rfl rfl rfl rfl (Nat.le_of_ble_eq_true rfl) dX7_init_27 ?_
  refine zv_aload_n (pc := 30) B 0 rfl dX7_init_30 ?_
  refine zv_bipush (pc := 31) (v := 10) B rfl dX7_init_31 ?_
  refine zp_newa (t0 := 1) (cA := E.2 1) (a0 := (10, .inl zz0)) (atype := .int) (N := 10) B wa_int rfl (fun C h => by cases h) (by rw [vp_cell_i]; rfl) (by decide) (by decide) (Nat.le_of_ble_eq_true rfl) (K1 := 116) rfl (Nat.le_of_ble_eq_true rfl) (Nat.le_of_ble_eq_true rfl) dX7_init_33 ?_
  refine zp_putF (i := 111) (f := 3) (fs := [.ref (b + 112), .ref (b + 113), .ref (b + 114), .null, .null, .null, .null, .null, .null, .null, .null, .null, .int 0, .int 0, .int 0, .int 0, .int 0, .int 0, .int 0, .int 0, .int 0, .int 0, .int 0, .int 0, .int 0, .long 0]) B hname (by decide) rfl cl7 inX7 tyX7 tyX7_ok nmX7 (by decide) wf_X7_19 rfl rfl rfl rfl rfl (Nat.le_of_ble_eq_true rfl) dX7_init_35 ?_
  refine zv_aload_n (pc := 38) B 0 rfl dX7_init_38 ?_
  refine zv_bipush (pc := 39) (v := 10) B rfl dX7_init_39 ?_
  refine zp_newa (t0 := 1) (cA := E.2 1) (a0 := (10, .inl zz0)) (atype := .int) (N := 10) B wa_int rfl (fun C h => by cases h) (by rw [vp_cell_i]; rfl) (by decide) (by decide) (Nat.le_of_ble_eq_true rfl) (K1 := 117) rfl (Nat.le_of_ble_eq_true rfl) (Nat.le_of_ble_eq_true rfl) dX7_init_41 ?_
  refine zp_putF (i := 111) (f := 4) (fs := [.ref (b + 112), .ref (b + 113), .ref (b + 114), .ref (b + 115), .null, .null, .null, .null, .null, .null, .null, .null, .int 0, .int 0, .int 0, .int 0, .int 0, .int 0, .int 0, .int 0, .int 0, .int 0, .int 0, .int 0, .int 0, .long 0]) B hname (by decide) rfl cl7 inX7 tyX7 tyX7_ok nmX7 (by decide) wf_X7_22 rfl rfl rfl rfl rfl (Nat.le_of_ble_eq_true rfl) dX7_init_43 ?_
  refine zv_aload_n (pc := 46) B 0 rfl dX7_init_46 ?_
  refine zv_bipush (pc := 47) (v := 10) B rfl dX7_init_47 ?_
  refine zp_newa (t0 := 1) (cA := E.2 1) (a0 := (10, .inl zz0)) (atype := .int) (N := 10) B wa_int rfl (fun C h => by cases h) (by rw [vp_cell_i]; rfl) (by decide) (by decide) (Nat.le_of_ble_eq_true rfl) (K1 := 118) rfl (Nat.le_of_ble_eq_true rfl) (Nat.le_of_ble_eq_true rfl) dX7_init_49 ?_
  refine zp_putF (i := 111) (f := 5) (fs := [.ref (b + 112), .ref (b + 113), .ref (b + 114), .ref (b + 115), .ref (b + 116), .null, .null, .null, .null, .null, .null, .null, .int 0, .int 0, .int 0, .int 0, .int 0, .int 0, .int 0, .int 0, .int 0, .int 0, .int 0, .int 0, .int 0, .long 0]) B hname (by decide) rfl cl7 inX7 tyX7 tyX7_ok nmX7 (by decide) wf_X7_25 rfl rfl rfl rfl rfl (Nat.le_of_ble_eq_true rfl) dX7_init_51 ?_
  refine zv_aload_n (pc := 54) B 0 rfl dX7_init_54 ?_
  refine zv_bipush (pc := 55) (v := 40) B rfl dX7_init_55 ?_
  refine zp_newa (t0 := 1) (cA := E.2 1) (a0 := (40, .inl zz0)) (atype := .int) (N := 40) B wa_int rfl (fun C h => by cases h) (by rw [vp_cell_i]; rfl) (by decide) (by decide) (Nat.le_of_ble_eq_true rfl) (K1 := 119) rfl (Nat.le_of_ble_eq_true rfl) (Nat.le_of_ble_eq_true rfl) dX7_init_57 ?_
  refine zp_putF (i := 111) (f := 6) (fs := [.ref (b + 112), .ref (b + 113), .ref (b + 114), .ref (b + 115), .ref (b + 116), .ref (b + 117), .null, .null, .null, .null, .null, .null, .int 0, .int 0, .int 0, .int 0, .int 0, .int 0, .int 0, .int 0, .int 0, .int 0, .int 0, .int 0, .int 0, .long 0]) B hname (by decide) rfl cl7 inX7 tyX7 tyX7_ok nmX7 (by decide) wf_X7_28 rfl rfl rfl rfl rfl (Nat.le_of_ble_eq_true rfl) dX7_init_59 ?_
  refine zv_aload_n (pc := 62) B 0 rfl dX7_init_62 ?_
  refine zv_bipush (pc := 63) (v := 40) B rfl dX7_init_63 ?_
  refine zp_newa (t0 := 1) (cA := E.2 1) (a0 := (40, .inl zz0)) (atype := .int) (N := 40) B wa_int rfl (fun C h => by cases h) (by rw [vp_cell_i]; rfl) (by decide) (by decide) (Nat.le_of_ble_eq_true rfl) (K1 := 120) rfl (Nat.le_of_ble_eq_true rfl) (Nat.le_of_ble_eq_true rfl) dX7_init_65 ?_
  refine zp_putF (i := 111) (f := 7) (fs := [.ref (b + 112), .ref (b + 113), .ref (b + 114), .ref (b + 115), .ref (b + 116), .ref (b + 117), .ref (b + 118), .null, .null, .null, .null, .null, .int 0, .int 0, .int 0, .int 0, .int 0, .int 0, .int 0, .int 0, .int 0, .int 0, .int 0, .int 0, .int 0, .long 0]) B hname (by decide) rfl cl7 inX7 tyX7 tyX7_ok nmX7 (by decide) wf_X7_31 rfl rfl rfl rfl rfl (Nat.le_of_ble_eq_true rfl) dX7_init_67 ?_
  refine zv_aload_n (pc := 70) B 0 rfl dX7_init_70 ?_
  refine zv_bipush (pc := 71) (v := 10) B rfl dX7_init_71 ?_
  refine zp_newa (t0 := 1) (cA := E.2 1) (a0 := (10, .inl zz0)) (atype := .int) (N := 10) B wa_int rfl (fun C h => by cases h) (by rw [vp_cell_i]; rfl) (by decide) (by decide) (Nat.le_of_ble_eq_true rfl) (K1 := 121) rfl (Nat.le_of_ble_eq_true rfl) (Nat.le_of_ble_eq_true rfl) dX7_init_73 ?_
  refine zp_putF (i := 111) (f := 8) (fs := [.ref (b + 112), .ref (b + 113), .ref (b + 114), .ref (b + 115), .ref (b + 116), .ref (b + 117), .ref (b + 118), .ref (b + 119), .null, .null, .null, .null, .int 0, .int 0, .int 0, .int 0, .int 0, .int 0, .int 0, .int 0, .int 0, .int 0, .int 0, .int 0, .int 0, .long 0]) B hname (by decide) rfl cl7 inX7 tyX7 tyX7_ok nmX7 (by decide) wf_X7_34 rfl rfl rfl rfl rfl (Nat.le_of_ble_eq_true rfl) dX7_init_75 ?_
  refine zv_aload_n (pc := 78) B 0 rfl dX7_init_78 ?_
  refine zv_bipush (pc := 79) (v := 10) B rfl dX7_init_79 ?_
  refine zp_newa (t0 := 1) (cA := E.2 1) (a0 := (10, .inl zz0)) (atype := .int) (N := 10) B wa_int rfl (fun C h => by cases h) (by rw [vp_cell_i]; rfl) (by decide) (by decide) (Nat.le_of_ble_eq_true rfl) (K1 := 122) rfl (Nat.le_of_ble_eq_true rfl) (Nat.le_of_ble_eq_true rfl) dX7_init_81 ?_
  refine zp_putF (i := 111) (f := 9) (fs := [.ref (b + 112), .ref (b + 113), .ref (b + 114), .ref (b + 115), .ref (b + 116), .ref (b + 117), .ref (b + 118), .ref (b + 119), .ref (b + 120), .null, .null, .null, .int 0, .int 0, .int 0, .int 0, .int 0, .int 0, .int 0, .int 0, .int 0, .int 0, .int 0, .int 0, .int 0, .long 0]) B hname (by decide) rfl cl7 inX7 tyX7 tyX7_ok nmX7 (by decide) wf_X7_37 rfl rfl rfl rfl rfl (Nat.le_of_ble_eq_true rfl) dX7_init_83 ?_
  refine zv_aload_n (pc := 86) B 0 rfl dX7_init_86 ?_
  refine zv_bipush (pc := 87) (v := 64) B rfl dX7_init_87 ?_
  refine zp_newa (t0 := 1) (cA := E.2 1) (a0 := (64, .inl zz0)) (atype := .int) (N := 64) B wa_int rfl (fun C h => by cases h) (by rw [vp_cell_i]; rfl) (by decide) (by decide) (Nat.le_of_ble_eq_true rfl) (K1 := 123) rfl (Nat.le_of_ble_eq_true rfl) (Nat.le_of_ble_eq_true rfl) dX7_init_89 ?_
  refine zp_putF (i := 111) (f := 10) (fs := [.ref (b + 112), .ref (b + 113), .ref (b + 114), .ref (b + 115), .ref (b + 116), .ref (b + 117), .ref (b + 118), .ref (b + 119), .ref (b + 120), .ref (b + 121), .null, .null, .int 0, .int 0, .int 0, .int 0, .int 0, .int 0, .int 0, .int 0, .int 0, .int 0, .int 0, .int 0, .int 0, .long 0]) B hname (by decide) rfl cl7 inX7 tyX7 tyX7_ok nmX7 (by decide) wf_X7_40 rfl rfl rfl rfl rfl (Nat.le_of_ble_eq_true rfl) dX7_init_91 ?_
  refine zv_aload_n (pc := 94) B 0 rfl dX7_init_94 ?_
  refine zv_bipush (pc := 95) (v := 10) B rfl dX7_init_95 ?_
  refine zp_newa (t0 := 2) (cA := E.2 2) (a0 := (10, .inl zz0)) (atype := .boolean) (N := 10) B wa_boolean rfl (fun C h => by cases h) (by rw [vp_cell_i]; rfl) (by decide) (by decide) (Nat.le_of_ble_eq_true rfl) (K1 := 124) rfl (Nat.le_of_ble_eq_true rfl) (Nat.le_of_ble_eq_true rfl) dX7_init_97 ?_
  refine zp_putF (i := 111) (f := 11) (fs := [.ref (b + 112), .ref (b + 113), .ref (b + 114), .ref (b + 115), .ref (b + 116), .ref (b + 117), .ref (b + 118), .ref (b + 119), .ref (b + 120), .ref (b + 121), .ref (b + 122), .null, .int 0, .int 0, .int 0, .int 0, .int 0, .int 0, .int 0, .int 0, .int 0, .int 0, .int 0, .int 0, .int 0, .long 0]) B hname (by decide) rfl cl7 inX7 tyX7 tyX7_ok nmX7 (by decide) wf_X7_43 rfl rfl rfl rfl rfl (Nat.le_of_ble_eq_true rfl) dX7_init_99 ?_
  refine zv_aload_n (pc := 102) B 0 rfl dX7_init_102 ?_
  refine zv_iconst (pc := 103) (v := 0) B rfl dX7_init_103 ?_
  refine zp_put (i := 111) (f := 12) (fs := [.ref (b + 112), .ref (b + 113), .ref (b + 114), .ref (b + 115), .ref (b + 116), .ref (b + 117), .ref (b + 118), .ref (b + 119), .ref (b + 120), .ref (b + 121), .ref (b + 122), .ref (b + 123), .int 0, .int 0, .int 0, .int 0, .int 0, .int 0, .int 0, .int 0, .int 0, .int 0, .int 0, .int 0, .int 0, .long 0]) B (by decide) rfl cl7 inX7 tyX7 tyX7_ok nmX7 (by decide) wf_X7_47 rfl rfl rfl rfl (Nat.le_of_ble_eq_true rfl) dX7_init_104 ?_
  refine zv_aload_n (pc := 107) B 0 rfl dX7_init_107 ?_
  refine zv_iconst (pc := 108) (v := 1) B rfl dX7_init_108 ?_
  refine zp_put (i := 111) (f := 13) (fs := [.ref (b + 112), .ref (b + 113), .ref (b + 114), .ref (b + 115), .ref (b + 116), .ref (b + 117), .ref (b + 118), .ref (b + 119), .ref (b + 120), .ref (b + 121), .ref (b + 122), .ref (b + 123), .int 0, .int 0, .int 0, .int 0, .int 0, .int 0, .int 0, .int 0, .int 0, .int 0, .int 0, .int 0, .int 0, .long 0]) B (by decide) rfl cl7 inX7 tyX7 tyX7_ok nmX7 (by decide) wf_X7_51 rfl rfl rfl rfl (Nat.le_of_ble_eq_true rfl) dX7_init_109 ?_
  refine zv_aload_n (pc := 112) B 0 rfl dX7_init_112 ?_
  refine zv_iconst (pc := 113) (v := 0) B rfl dX7_init_113 ?_
  refine zp_put (i := 111) (f := 14) (fs := [.ref (b + 112), .ref (b + 113), .ref (b + 114), .ref (b + 115), .ref (b + 116), .ref (b + 117), .ref (b + 118), .ref (b + 119), .ref (b + 120), .ref (b + 121), .ref (b + 122), .ref (b + 123), .int 0, .int 1, .int 0, .int 0, .int 0, .int 0, .int 0, .int 0, .int 0, .int 0, .int 0, .int 0, .int 0, .long 0]) B (by decide) rfl cl7 inX7 tyX7 tyX7_ok nmX7 (by decide) wf_X7_54 rfl rfl rfl rfl (Nat.le_of_ble_eq_true rfl) dX7_init_114 ?_
  refine zv_aload_n (pc := 117) B 0 rfl dX7_init_117 ?_
  refine zv_bipush (pc := 118) (v := 115) B rfl dX7_init_118 ?_
  refine zp_put (i := 111) (f := 15) (fs := [.ref (b + 112), .ref (b + 113), .ref (b + 114), .ref (b + 115), .ref (b + 116), .ref (b + 117), .ref (b + 118), .ref (b + 119), .ref (b + 120), .ref (b + 121), .ref (b + 122), .ref (b + 123), .int 0, .int 1, .int 0, .int 0, .int 0, .int 0, .int 0, .int 0, .int 0, .int 0, .int 0, .int 0, .int 0, .long 0]) B (by decide) rfl cl7 inX7 tyX7 tyX7_ok nmX7 (by decide) wf_X7_57 rfl rfl rfl rfl (Nat.le_of_ble_eq_true rfl) dX7_init_120 ?_
  refine zv_aload_n (pc := 123) B 0 rfl dX7_init_123 ?_
  refine zv_iconst (pc := 124) (v := 0) B rfl dX7_init_124 ?_
  refine zp_put (i := 111) (f := 16) (fs := [.ref (b + 112), .ref (b + 113), .ref (b + 114), .ref (b + 115), .ref (b + 116), .ref (b + 117), .ref (b + 118), .ref (b + 119), .ref (b + 120), .ref (b + 121), .ref (b + 122), .ref (b + 123), .int 0, .int 1, .int 0, .int 115, .int 0, .int 0, .int 0, .int 0, .int 0, .int 0, .int 0, .int 0, .int 0, .long 0]) B (by decide) rfl cl7 inX7 tyX7 tyX7_ok nmX7 (by decide) wf_X7_60 rfl rfl rfl rfl (Nat.le_of_ble_eq_true rfl) dX7_init_125 ?_
  refine zv_aload_n (pc := 128) B 0 rfl dX7_init_128 ?_
  refine zv_iconst (pc := 129) (v := 0) B rfl dX7_init_129 ?_
  refine zp_put (i := 111) (f := 17) (fs := [.ref (b + 112), .ref (b + 113), .ref (b + 114), .ref (b + 115), .ref (b + 116), .ref (b + 117), .ref (b + 118), .ref (b + 119), .ref (b + 120), .ref (b + 121), .ref (b + 122), .ref (b + 123), .int 0, .int 1, .int 0, .int 115, .int 0, .int 0, .int 0, .int 0, .int 0, .int 0, .int 0, .int 0, .int 0, .long 0]) B (by decide) rfl cl7 inX7 tyX7 tyX7_ok nmX7 (by decide) wf_X7_63 rfl rfl rfl rfl (Nat.le_of_ble_eq_true rfl) dX7_init_130 ?_
  refine zv_aload_n (pc := 133) B 0 rfl dX7_init_133 ?_
  refine zv_sipush (pc := 134) (v := 1000) B rfl dX7_init_134 ?_
  refine zp_put (i := 111) (f := 18) (fs := [.ref (b + 112), .ref (b + 113), .ref (b + 114), .ref (b + 115), .ref (b + 116), .ref (b + 117), .ref (b + 118), .ref (b + 119), .ref (b + 120), .ref (b + 121), .ref (b + 122), .ref (b + 123), .int 0, .int 1, .int 0, .int 115, .int 0, .int 0, .int 0, .int 0, .int 0, .int 0, .int 0, .int 0, .int 0, .long 0]) B (by decide) rfl cl7 inX7 tyX7 tyX7_ok nmX7 (by decide) wf_X7_66 rfl rfl rfl rfl (Nat.le_of_ble_eq_true rfl) dX7_init_137 ?_
  refine zv_aload_n (pc := 140) B 0 rfl dX7_init_140 ?_
  refine zv_iconst (pc := 141) (v := 0) B rfl dX7_init_141 ?_
  refine zp_put (i := 111) (f := 19) (fs := [.ref (b + 112), .ref (b + 113), .ref (b + 114), .ref (b + 115), .ref (b + 116), .ref (b + 117), .ref (b + 118), .ref (b + 119), .ref (b + 120), .ref (b + 121), .ref (b + 122), .ref (b + 123), .int 0, .int 1, .int 0, .int 115, .int 0, .int 0, .int 1000, .int 0, .int 0, .int 0, .int 0, .int 0, .int 0, .long 0]) B (by decide) rfl cl7 inX7 tyX7 tyX7_ok nmX7 (by decide) wf_X7_69 rfl rfl rfl rfl (Nat.le_of_ble_eq_true rfl) dX7_init_142 ?_
  refine zv_aload_n (pc := 145) B 0 rfl dX7_init_145 ?_
  refine zv_iconst (pc := 146) (v := 0) B rfl dX7_init_146 ?_
  refine zp_put (i := 111) (f := 20) (fs := [.ref (b + 112), .ref (b + 113), .ref (b + 114), .ref (b + 115), .ref (b + 116), .ref (b + 117), .ref (b + 118), .ref (b + 119), .ref (b + 120), .ref (b + 121), .ref (b + 122), .ref (b + 123), .int 0, .int 1, .int 0, .int 115, .int 0, .int 0, .int 1000, .int 0, .int 0, .int 0, .int 0, .int 0, .int 0, .long 0]) B (by decide) rfl cl7 inX7 tyX7 tyX7_ok nmX7 (by decide) wf_X7_72 rfl rfl rfl rfl (Nat.le_of_ble_eq_true rfl) dX7_init_147 ?_
  refine zv_aload_n (pc := 150) B 0 rfl dX7_init_150 ?_
  refine zv_iconst (pc := 151) (v := 0) B rfl dX7_init_151 ?_
  refine zp_put (i := 111) (f := 21) (fs := [.ref (b + 112), .ref (b + 113), .ref (b + 114), .ref (b + 115), .ref (b + 116), .ref (b + 117), .ref (b + 118), .ref (b + 119), .ref (b + 120), .ref (b + 121), .ref (b + 122), .ref (b + 123), .int 0, .int 1, .int 0, .int 115, .int 0, .int 0, .int 1000, .int 0, .int 0, .int 0, .int 0, .int 0, .int 0, .long 0]) B (by decide) rfl cl7 inX7 tyX7 tyX7_ok nmX7 (by decide) wf_X7_75 rfl rfl rfl rfl (Nat.le_of_ble_eq_true rfl) dX7_init_152 ?_
  refine zv_aload_n (pc := 155) B 0 rfl dX7_init_155 ?_
  refine zv_iconst (pc := 156) (v := 0) B rfl dX7_init_156 ?_
  refine zp_put (i := 111) (f := 22) (fs := [.ref (b + 112), .ref (b + 113), .ref (b + 114), .ref (b + 115), .ref (b + 116), .ref (b + 117), .ref (b + 118), .ref (b + 119), .ref (b + 120), .ref (b + 121), .ref (b + 122), .ref (b + 123), .int 0, .int 1, .int 0, .int 115, .int 0, .int 0, .int 1000, .int 0, .int 0, .int 0, .int 0, .int 0, .int 0, .long 0]) B (by decide) rfl cl7 inX7 tyX7 tyX7_ok nmX7 (by decide) wf_X7_78 rfl rfl rfl rfl (Nat.le_of_ble_eq_true rfl) dX7_init_157 ?_
  refine zv_aload_n (pc := 160) B 0 rfl dX7_init_160 ?_
  refine zv_iconst (pc := 161) (v := 0) B rfl dX7_init_161 ?_
  refine zp_put (i := 111) (f := 23) (fs := [.ref (b + 112), .ref (b + 113), .ref (b + 114), .ref (b + 115), .ref (b + 116), .ref (b + 117), .ref (b + 118), .ref (b + 119), .ref (b + 120), .ref (b + 121), .ref (b + 122), .ref (b + 123), .int 0, .int 1, .int 0, .int 115, .int 0, .int 0, .int 1000, .int 0, .int 0, .int 0, .int 0, .int 0, .int 0, .long 0]) B (by decide) rfl cl7 inX7 tyX7 tyX7_ok nmX7 (by decide) wf_X7_81 rfl rfl rfl rfl (Nat.le_of_ble_eq_true rfl) dX7_init_162 ?_
  refine zv_aload_n (pc := 165) B 0 rfl dX7_init_165 ?_
  refine zv_iconst (pc := 166) (v := 0) B rfl dX7_init_166 ?_
  refine zp_put (i := 111) (f := 24) (fs := [.ref (b + 112), .ref (b + 113), .ref (b + 114), .ref (b + 115), .ref (b + 116), .ref (b + 117), .ref (b + 118), .ref (b + 119), .ref (b + 120), .ref (b + 121), .ref (b + 122), .ref (b + 123), .int 0, .int 1, .int 0, .int 115, .int 0, .int 0, .int 1000, .int 0, .int 0, .int 0, .int 0, .int 0, .int 0, .long 0]) B (by decide) rfl cl7 inX7 tyX7 tyX7_ok nmX7 (by decide) wf_X7_84 rfl rfl rfl rfl (Nat.le_of_ble_eq_true rfl) dX7_init_167 ?_
  refine zv_aload_n (pc := 170) B 0 rfl dX7_init_170 ?_
  refine zv_lconst (pc := 171) (v := 0) B rfl dX7_init_171 ?_
  refine zp_put (i := 111) (f := 25) (fs := [.ref (b + 112), .ref (b + 113), .ref (b + 114), .ref (b + 115), .ref (b + 116), .ref (b + 117), .ref (b + 118), .ref (b + 119), .ref (b + 120), .ref (b + 121), .ref (b + 122), .ref (b + 123), .int 0, .int 1, .int 0, .int 115, .int 0, .int 0, .int 1000, .int 0, .int 0, .int 0, .int 0, .int 0, .int 0, .long 0]) B (by decide) rfl cl7 inX7 tyX7 tyX7_ok nmX7 (by decide) wf_X7_87 rfl rfl rfl rfl (Nat.le_of_ble_eq_true rfl) dX7_init_172 ?_
  refine zv_aload_n (pc := 175) B 0 rfl dX7_init_175 ?_
  refine zv_callV (pc := 176) (As := []) (rest := []) B (k_X7_lays_0 l E b rfl rfl rfl rfl) (zcwV 0 1 B wm_X7_91 wi_X7_lays wv_X7_lays wn_X7 wcode_X7_lays rfl (by decide +kernel) ⟨(Nat.le_of_ble_eq_true rfl), (Nat.le_of_ble_eq_true rfl)⟩) rfl (zrecv B (zp_hat (i := 111) (e1 := .inr (9, [.ref (b + 112), .ref (b + 113), .ref (b + 114), .ref (b + 115), .ref (b + 116), .ref (b + 117), .ref (b + 118), .ref (b + 119), .ref (b + 120), .ref (b + 121), .ref (b + 122), .ref (b + 123), .int 0, .int 1, .int 0, .int 115, .int 0, .int 0, .int 1000, .int 0, .int 0, .int 0, .int 0, .int 0, .int 0, .long 0])) (by decide) rfl) cl7) (fun H h => h) rfl (Nat.le_of_ble_eq_true rfl) dX7_init_176 ⟨(Nat.le_of_ble_eq_true rfl), (Nat.le_of_ble_eq_true rfl)⟩ (fun v9 u9 hv9 => ?_)
  subst hv9
  refine zv_st (st' := []) rfl ?_
  exact zv_vret (pc := 179) B hr (fun H hP => ⟨(), rfl, hP.eq (zls (zls (zls (zls (zls (zls (zls (zls (zls (zls (zls (zls (zls (zls (zls (zls (zls (zls (zls (zls (zls (zls (zls (zls (zls (zls (zls (zls (zls (zls (zls (zls (zls (zls (zls (zls (zls (zls (zls (zls (zls (zls (zls (zls (zls (zls (zls (zls (zls (zls (zls (zls (zls (zls (zls (zls (zls (zls (zls (zls (zls (zls (zls (zls (zls (zls (zls (zls (zls (zls (zls (zls (zls (zls (zls (zls (zls (zls (zls (zls (zls (zls (zls (zls (zls (zls (zls (zls (zls (zls (zls (zls (zls (zls (zls (zls (zls (zls (zls (zls (zls (zls (zls (zls (zls (zls (zls (zls (zls (zls (zls (zls (zls (zls (zls (zls (zls (zls (zls (zls (zls (zls (zls (zls zl0 rfl) rfl) rfl) rfl) rfl) rfl) rfl) rfl) rfl) rfl) rfl) rfl) rfl) rfl) rfl) rfl) rfl) rfl) rfl) rfl) rfl) rfl) rfl) rfl) rfl) rfl) rfl) rfl) rfl) rfl) rfl) rfl) rfl) rfl) rfl) rfl) rfl) rfl) rfl) rfl) rfl) rfl) rfl) rfl) rfl) rfl) rfl) rfl) rfl) rfl) rfl) rfl) rfl) rfl) rfl) rfl) rfl) rfl) rfl) rfl) rfl) rfl) rfl) rfl) rfl) rfl) rfl) rfl) rfl) rfl) rfl) rfl) rfl) rfl) rfl) rfl) rfl) rfl) rfl) rfl) rfl) rfl) rfl) rfl) rfl) rfl) rfl) rfl) rfl) rfl) rfl) rfl) rfl) rfl) rfl) rfl) rfl) rfl) rfl) rfl) rfl) rfl) rfl) rfl) rfl) rfl) rfl) rfl) rfl) rfl) rfl) rfl) rfl) rfl) rfl) rfl) rfl) rfl) rfl) rfl) rfl) rfl) rfl) rfl)⟩) (Nat.le_of_ble_eq_true rfl) (Nat.le_of_ble_eq_true rfl) dX7_init_179