set_option maxRecDepth 100000 in
theorem k_X2_init (l : Launch) (E : zE) (b : Nat) {F : Nat → va_E} {K o : Nat} (ho : o < K) (hFo : F o = .inr (4, [.int 0, .int 0, .int 0, .int 0])) (x y z u : Int32) : zM l yX2_init (.code yX2_init cX2_init 5 none :: zAll) (zRm 1 0 0) E b [.ref (b + o), .int x, .int y, .int z, .int u] (zPic E b K F) (fun v9 (_ : Unit) => v9 = none) (fun _ => zPic E b K (va_up F o (.inr (4, [.int x, .int y, .int z, .int u])))) 0 0 := by
  refine zM_of "ToneGraph$Envelope" (by decide) rfl rfl (Nat.le_of_ble_eq_true rfl) (L0 := [(0, .ref (b + o)), (1, .int x), (2, .int y), (3, .int z), (4, .int u)]) rfl ?_
  intro p e s m args below meth c9 B hr hname
  refine zv_aload_n (pc := 0) B 0 rfl dX2_init_0 ?_
  refine zp_objI B wm_X2_1 wi_Object_init wcode_Object_init dX2_init_1 (Nat.le_of_ble_eq_true rfl) (Nat.le_of_ble_eq_true rfl) ?_
  refine zv_aload_n (pc := 4) B 0 rfl dX2_init_4 ?_
  refine zv_iload_n (pc := 5) B 1 rfl dX2_init_5 ?_
  refine zp_putF (i := o) (f := 0) (fs := [.int 0, .int 0, .int 0, .int 0]) B hname ho hFo cl2 inX2 tyX2 tyX2_ok nmX2 (by decide) wf_X2_7 rfl rfl rfl rfl rfl (Nat.le_of_ble_eq_true rfl) dX2_init_6 ?_
  refine zv_aload_n (pc := 9) B 0 rfl dX2_init_9 ?_
  refine zv_iload_n (pc := 10) B 2 rfl dX2_init_10 ?_
  refine zp_putF (i := o) (f := 1) (fs := [.int x, .int 0, .int 0, .int 0]) B hname ho (by simp [va_up]) cl2 inX2 tyX2 tyX2_ok nmX2 (by decide) wf_X2_13 rfl rfl rfl rfl rfl (Nat.le_of_ble_eq_true rfl) dX2_init_11 ?_
  refine zv_aload_n (pc := 14) B 0 rfl dX2_init_14 ?_
  refine zv_iload_n (pc := 15) B 3 rfl dX2_init_15 ?_
  refine zp_putF (i := o) (f := 2) (fs := [.int x, .int y, .int 0, .int 0]) B hname ho (by simp [va_up]) cl2 inX2 tyX2 tyX2_ok nmX2 (by decide) wf_X2_16 rfl rfl rfl rfl rfl (Nat.le_of_ble_eq_true rfl) dX2_init_16 ?_
  refine zv_aload_n (pc := 19) B 0 rfl dX2_init_19 ?_
  refine zv_iload (pc := 20) B 4 rfl dX2_init_20 ?_
  refine zp_putF (i := o) (f := 3) (fs := [.int x, .int y, .int z, .int 0]) B hname ho (by simp [va_up]) cl2 inX2 tyX2 tyX2_ok nmX2 (by decide) wf_X2_19 rfl rfl rfl rfl rfl (Nat.le_of_ble_eq_true rfl) dX2_init_22 ?_
  exact zv_vret (pc := 25) B hr (fun H hP => ⟨(), rfl, hP.eq (fun i _ => by by_cases q : i = o <;> simp [va_up, q])⟩) (Nat.le_of_ble_eq_true rfl) (Nat.le_of_ble_eq_true rfl) dX2_init_25
set_option maxRecDepth 100000 in
set_option maxHeartbeats 1000000 in
theorem k_X0_init_1 (l : Launch) (E : zE) (b : Nat) {F : Nat → va_E} (hF1 : F 1 = .inr (2, [.int 0, .int 0, .null, .null, .null, .null, .null, .null, .null, .null, .null, .null, .null, .null])) : zM l yX0_init (.code yX0_init cX0_init 1 none :: zAll) (zRm 1 32 200) E b [.ref (b + 1)] (zPic E b 2 F) (fun v9 (_ : Unit) => v9 = none) (fun _ => zPic E b 34 (zfill E b 1 34 F)) 32 200 := by
  refine zM_of "ToneGraph$Board" (by decide) rfl rfl (Nat.le_of_ble_eq_true rfl) (L0 := [(0, .ref (b + 1))]) rfl ?_
  intro p e s m args below meth c9 B hr hname
  refine zv_aload_n (pc := 0) B 0 rfl dX0_init_0 ?_
  refine zp_objI B wm_X0_3 wi_Object_init wcode_Object_init dX0_init_1 (Nat.le_of_ble_eq_true rfl) (Nat.le_of_ble_eq_true rfl) ?_
  refine zv_aload_n (pc := 4) B 0 rfl dX0_init_4 ?_
  refine zv_bipush (pc := 5) (v := 10) B rfl dX0_init_5 ?_
  refine zp_newa (t0 := 0) (cA := E.2 0) (a0 := (10, .inl zz0)) (atype := .char) (N := 10) B wa_char rfl (fun C h => by cases h) (by rw [vp_cell_i]; rfl) (by decide) (by decide) (Nat.le_of_ble_eq_true rfl) (K1 := 3) rfl (Nat.le_of_ble_eq_true rfl) (Nat.le_of_ble_eq_true rfl) dX0_init_7 ?_
  refine zp_putF (i := 1) (f := 2) (fs := [.int 0, .int 0, .null, .null, .null, .null, .null, .null, .null, .null, .null, .null, .null, .null]) B hname (by decide) hF1 cl0 inX0 tyX0 tyX0_ok nmX0 (by decide) wf_X0_9 rfl rfl rfl rfl rfl (Nat.le_of_ble_eq_true rfl) dX0_init_9 ?_
  refine zv_aload_n (pc := 12) B 0 rfl dX0_init_12 ?_
  refine zv_bipush (pc := 13) (v := 10) B rfl dX0_init_13 ?_
  refine zp_newa (t0 := 1) (cA := E.2 1) (a0 := (10, .inl zz0)) (atype := .int) (N := 10) B wa_int rfl (fun C h => by cases h) (by rw [vp_cell_i]; rfl) (by decide) (by decide) (Nat.le_of_ble_eq_true rfl) (K1 := 4) rfl (Nat.le_of_ble_eq_true rfl) (Nat.le_of_ble_eq_true rfl) dX0_init_15 ?_
  refine zp_putF (i := 1) (f := 3) (fs := [.int 0, .int 0, .ref (b + 2), .null, .null, .null, .null, .null, .null, .null, .null, .null, .null, .null]) B hname (by decide) rfl cl0 inX0 tyX0 tyX0_ok nmX0 (by decide) wf_X0_15 rfl rfl rfl rfl rfl (Nat.le_of_ble_eq_true rfl) dX0_init_17 ?_
  refine zv_aload_n (pc := 20) B 0 rfl dX0_init_20 ?_
  refine zv_bipush (pc := 21) (v := 10) B rfl dX0_init_21 ?_
  refine zp_newa (t0 := 1) (cA := E.2 1) (a0 := (10, .inl zz0)) (atype := .int) (N := 10) B wa_int rfl (fun C h => by cases h) (by rw [vp_cell_i]; rfl) (by decide) (by decide) (Nat.le_of_ble_eq_true rfl) (K1 := 5) rfl (Nat.le_of_ble_eq_true rfl) (Nat.le_of_ble_eq_true rfl) dX0_init_23 ?_
  refine zp_putF (i := 1) (f := 4) (fs := [.int 0, .int 0, .ref (b + 2), .ref (b + 3), .null, .null, .null, .null, .null, .null, .null, .null, .null, .null]) B hname (by decide) rfl cl0 inX0 tyX0 tyX0_ok nmX0 (by decide) wf_X0_19 rfl rfl rfl rfl rfl (Nat.le_of_ble_eq_true rfl) dX0_init_25 ?_
  refine zv_aload_n (pc := 28) B 0 rfl dX0_init_28 ?_
  refine zv_bipush (pc := 29) (v := 10) B rfl dX0_init_29 ?_
  refine zp_newa (t0 := 1) (cA := E.2 1) (a0 := (10, .inl zz0)) (atype := .int) (N := 10) B wa_int rfl (fun C h => by cases h) (by rw [vp_cell_i]; rfl) (by decide) (by decide) (Nat.le_of_ble_eq_true rfl) (K1 := 6) rfl (Nat.le_of_ble_eq_true rfl) (Nat.le_of_ble_eq_true rfl) dX0_init_31 ?_
  refine zp_putF (i := 1) (f := 5) (fs := [.int 0, .int 0, .ref (b + 2), .ref (b + 3), .ref (b + 4), .null, .null, .null, .null, .null, .null, .null, .null, .null]) B hname (by decide) rfl cl0 inX0 tyX0 tyX0_ok nmX0 (by decide) wf_X0_22 rfl rfl rfl rfl rfl (Nat.le_of_ble_eq_true rfl) dX0_init_33 ?_
  refine zv_aload_n (pc := 36) B 0 rfl dX0_init_36 ?_
  refine zv_bipush (pc := 37) (v := 10) B rfl dX0_init_37 ?_
  refine zp_newa (t0 := 1) (cA := E.2 1) (a0 := (10, .inl zz0)) (atype := .int) (N := 10) B wa_int rfl (fun C h => by cases h) (by rw [vp_cell_i]; rfl) (by decide) (by decide) (Nat.le_of_ble_eq_true rfl) (K1 := 7) rfl (Nat.le_of_ble_eq_true rfl) (Nat.le_of_ble_eq_true rfl) dX0_init_39 ?_
  refine zp_putF (i := 1) (f := 6) (fs := [.int 0, .int 0, .ref (b + 2), .ref (b + 3), .ref (b + 4), .ref (b + 5), .null, .null, .null, .null, .null, .null, .null, .null]) B hname (by decide) rfl cl0 inX0 tyX0 tyX0_ok nmX0 (by decide) wf_X0_25 rfl rfl rfl rfl rfl (Nat.le_of_ble_eq_true rfl) dX0_init_41 ?_
  refine zv_aload_n (pc := 44) B 0 rfl dX0_init_44 ?_
  refine zv_bipush (pc := 45) (v := 10) B rfl dX0_init_45 ?_
  refine zp_newa (t0 := 1) (cA := E.2 1) (a0 := (10, .inl zz0)) (atype := .int) (N := 10) B wa_int rfl (fun C h => by cases h) (by rw [vp_cell_i]; rfl) (by decide) (by decide) (Nat.le_of_ble_eq_true rfl) (K1 := 8) rfl (Nat.le_of_ble_eq_true rfl) (Nat.le_of_ble_eq_true rfl) dX0_init_47 ?_
  refine zp_putF (i := 1) (f := 7) (fs := [.int 0, .int 0, .ref (b + 2), .ref (b + 3), .ref (b + 4), .ref (b + 5), .ref (b + 6), .null, .null, .null, .null, .null, .null, .null]) B hname (by decide) rfl cl0 inX0 tyX0 tyX0_ok nmX0 (by decide) wf_X0_28 rfl rfl rfl rfl rfl (Nat.le_of_ble_eq_true rfl) dX0_init_49 ?_
  refine zv_aload_n (pc := 52) B 0 rfl dX0_init_52 ?_
  refine zv_bipush (pc := 53) (v := 10) B rfl dX0_init_53 ?_
  refine zp_newa (t0 := 1) (cA := E.2 1) (a0 := (10, .inl zz0)) (atype := .int) (N := 10) B wa_int rfl (fun C h => by cases h) (by rw [vp_cell_i]; rfl) (by decide) (by decide) (Nat.le_of_ble_eq_true rfl) (K1 := 9) rfl (Nat.le_of_ble_eq_true rfl) (Nat.le_of_ble_eq_true rfl) dX0_init_55 ?_
  refine zp_putF (i := 1) (f := 8) (fs := [.int 0, .int 0, .ref (b + 2), .ref (b + 3), .ref (b + 4), .ref (b + 5), .ref (b + 6), .ref (b + 7), .null, .null, .null, .null, .null, .null]) B hname (by decide) rfl cl0 inX0 tyX0 tyX0_ok nmX0 (by decide) wf_X0_31 rfl rfl rfl rfl rfl (Nat.le_of_ble_eq_true rfl) dX0_init_57 ?_
  refine zv_aload_n (pc := 60) B 0 rfl dX0_init_60 ?_
  refine zv_bipush (pc := 61) (v := 10) B rfl dX0_init_61 ?_
  refine zp_newa (t0 := 1) (cA := E.2 1) (a0 := (10, .inl zz0)) (atype := .int) (N := 10) B wa_int rfl (fun C h => by cases h) (by rw [vp_cell_i]; rfl) (by decide) (by decide) (Nat.le_of_ble_eq_true rfl) (K1 := 10) rfl (Nat.le_of_ble_eq_true rfl) (Nat.le_of_ble_eq_true rfl) dX0_init_63 ?_
  refine zp_putF (i := 1) (f := 9) (fs := [.int 0, .int 0, .ref (b + 2), .ref (b + 3), .ref (b + 4), .ref (b + 5), .ref (b + 6), .ref (b + 7), .ref (b + 8), .null, .null, .null, .null, .null]) B hname (by decide) rfl cl0 inX0 tyX0 tyX0_ok nmX0 (by decide) wf_X0_34 rfl rfl rfl rfl rfl (Nat.le_of_ble_eq_true rfl) dX0_init_65 ?_
  refine zv_aload_n (pc := 68) B 0 rfl dX0_init_68 ?_
  refine zv_bipush (pc := 69) (v := 10) B rfl dX0_init_69 ?_
  refine zp_newa (t0 := 1) (cA := E.2 1) (a0 := (10, .inl zz0)) (atype := .int) (N := 10) B wa_int rfl (fun C h => by cases h) (by rw [vp_cell_i]; rfl) (by decide) (by decide) (Nat.le_of_ble_eq_true rfl) (K1 := 11) rfl (Nat.le_of_ble_eq_true rfl) (Nat.le_of_ble_eq_true rfl) dX0_init_71 ?_
  refine zp_putF (i := 1) (f := 10) (fs := [.int 0, .int 0, .ref (b + 2), .ref (b + 3), .ref (b + 4), .ref (b + 5), .ref (b + 6), .ref (b + 7), .ref (b + 8), .ref (b + 9), .null, .null, .null, .null]) B hname (by decide) rfl cl0 inX0 tyX0 tyX0_ok nmX0 (by decide) wf_X0_37 rfl rfl rfl rfl rfl (Nat.le_of_ble_eq_true rfl) dX0_init_73 ?_
  refine zv_aload_n (pc := 76) B 0 rfl dX0_init_76 ?_
  refine zv_bipush (pc := 77) (v := 10) B rfl dX0_init_77 ?_
  refine zv_iconst (pc := 79) (v := 4) B rfl dX0_init_79 ?_
  refine zp_mna (N := 10) (M := 4) B wc_X0_40 wa_int (by decide) (by decide) (by decide) (by decide) (Nat.le_of_ble_eq_true rfl) (Nat.le_of_ble_eq_true rfl) (K1 := 22) rfl (Nat.le_of_ble_eq_true rfl) (Nat.le_of_ble_eq_true rfl) dX0_init_80 ?_
  refine zp_putF (i := 1) (f := 11) (fs := [.int 0, .int 0, .ref (b + 2), .ref (b + 3), .ref (b + 4), .ref (b + 5), .ref (b + 6), .ref (b + 7), .ref (b + 8), .ref (b + 9), .ref (b + 10), .null, .null, .null]) B hname (by decide) rfl cl0 inX0 tyX0 tyX0_ok nmX0 (by decide) wf_X0_42 rfl rfl rfl rfl rfl (Nat.le_of_ble_eq_true rfl) dX0_init_84 ?_
  refine zv_aload_n (pc := 87) B 0 rfl dX0_init_87 ?_
  refine zv_bipush (pc := 88) (v := 10) B rfl dX0_init_88 ?_
  refine zv_iconst (pc := 90) (v := 4) B rfl dX0_init_90 ?_
  refine zp_mna (N := 10) (M := 4) B wc_X0_40 wa_int (by decide) (by decide) (by decide) (by decide) (Nat.le_of_ble_eq_true rfl) (Nat.le_of_ble_eq_true rfl) (K1 := 33) rfl (Nat.le_of_ble_eq_true rfl) (Nat.le_of_ble_eq_true rfl) dX0_init_91 ?_
  refine zp_putF (i := 1) (f := 12) (fs := [.int 0, .int 0, .ref (b + 2), .ref (b + 3), .ref (b + 4), .ref (b + 5), .ref (b + 6), .ref (b + 7), .ref (b + 8), .ref (b + 9), .ref (b + 10), .ref (b + 11), .null, .null]) B hname (by decide) rfl cl0 inX0 tyX0 tyX0_ok nmX0 (by decide) wf_X0_45 rfl rfl rfl rfl rfl (Nat.le_of_ble_eq_true rfl) dX0_init_95 ?_
  refine zv_aload_n (pc := 98) B 0 rfl dX0_init_98 ?_
  refine zv_bipush (pc := 99) (v := 10) B rfl dX0_init_99 ?_
  refine zp_newa (t0 := 1) (cA := E.2 1) (a0 := (10, .inl zz0)) (atype := .int) (N := 10) B wa_int rfl (fun C h => by cases h) (by rw [vp_cell_i]; rfl) (by decide) (by decide) (Nat.le_of_ble_eq_true rfl) (K1 := 34) rfl (Nat.le_of_ble_eq_true rfl) (Nat.le_of_ble_eq_true rfl) dX0_init_101 ?_
  refine zp_putF (i := 1) (f := 13) (fs := [.int 0, .int 0, .ref (b + 2), .ref (b + 3), .ref (b + 4), .ref (b + 5), .ref (b + 6), .ref (b + 7), .ref (b + 8), .ref (b + 9), .ref (b + 10), .ref (b + 11), .ref (b + 22), .null]) B hname (by decide) rfl cl0 inX0 tyX0 tyX0_ok nmX0 (by decide) wf_X0_48 rfl rfl rfl rfl rfl (Nat.le_of_ble_eq_true rfl) dX0_init_103 ?_
  refine zv_aload_n (pc := 106) B 0 rfl dX0_init_106 ?_
  refine zv_iconst (pc := 107) (v := 1) B rfl dX0_init_107 ?_
  refine zp_put (i := 1) (f := 0) (fs := [.int 0, .int 0, .ref (b + 2), .ref (b + 3), .ref (b + 4), .ref (b + 5), .ref (b + 6), .ref (b + 7), .ref (b + 8), .ref (b + 9), .ref (b + 10), .ref (b + 11), .ref (b + 22), .ref (b + 33)]) B (by decide) rfl cl0 inX0 tyX0 tyX0_ok nmX0 (by decide) wf_X0_51 rfl rfl rfl rfl (Nat.le_of_ble_eq_true rfl) dX0_init_108 ?_
  refine zv_aload_n (pc := 111) B 0 rfl dX0_init_111 ?_
  refine zv_get (pc := 112) (v := .ref (b + 2)) B (zp_hat (i := 1) (e1 := .inr (2, [.int 1, .int 0, .ref (b + 2), .ref (b + 3), .ref (b + 4), .ref (b + 5), .ref (b + 6), .ref (b + 7), .ref (b + 8), .ref (b + 9), .ref (b + 10), .ref (b + 11), .ref (b + 22), .ref (b + 33)])) (by decide) rfl) cl0 inX0 2 (by decide) wf_X0_9 rfl dX0_init_112 ?_
  refine zv_iconst (pc := 115) (v := 0) B rfl dX0_init_115 ?_
  refine zv_bipush (pc := 116) (v := 118) B rfl dX0_init_116 ?_
  refine zp_cast (i := 2) (jj := 0) B (by decide) rfl rfl (by decide) (by decide) rfl dX0_init_118 ?_
  exact zv_vret (pc := 119) B hr (fun H hP => ⟨(), rfl, hP.eq (zls (zls (zls (zls (zls (zls (zls (zls (zls (zls (zls (zls (zls (zls (zls (zls (zls (zls (zls (zls (zls (zls (zls (zls (zls (zls (zls (zls (zls (zls (zls (zls (zls (zls zl0 rfl) rfl) rfl) rfl) rfl) rfl) rfl) rfl) rfl) rfl) rfl) rfl) rfl) rfl) rfl) rfl) rfl) rfl) rfl) rfl) rfl) rfl) rfl) rfl) rfl) rfl) rfl) rfl) rfl) rfl) rfl) rfl) rfl) rfl)⟩) (Nat.le_of_ble_eq_true rfl) (Nat.le_of_ble_eq_true rfl) dX0_init_119
set_option maxRecDepth 100000 in
set_option maxHeartbeats 1000000 in
theorem k_X3_init_106 (l : Launch) (E : zE) (b : Nat) {F : Nat → va_E} (hF106 : F 106 = .inr (5, [.null, .int 0, .int 0, .long 0, .int 0])) : zM l yX3_init (.code yX3_init cX3_init 1 none :: zAll) (zRm 1 1 64) E b [.ref (b + 106)] (zPic E b 107 F) (fun v9 (_ : Unit) => v9 = none) (fun _ => zPic E b 108 (zfill E b 106 108 F)) 1 64 := by
  refine zM_of "ToneGraph$Meter" (by decide) rfl rfl (Nat.le_of_ble_eq_true rfl) (L0 := [(0, .ref (b + 106))]) rfl ?_
  intro p e s m args below meth c9 B hr hname
  refine zv_aload_n (pc := 0) B 0 rfl dX3_init_0 ?_
  refine zp_objI B wm_X3_3 wi_Object_init wcode_Object_init dX3_init_1 (Nat.le_of_ble_eq_true rfl) (Nat.le_of_ble_eq_true rfl) ?_
  refine zv_aload_n (pc := 4) B 0 rfl dX3_init_4 ?_
  refine zv_bipush (pc := 5) (v := 64) B rfl dX3_init_5 ?_
  refine zp_newa (t0 := 1) (cA := E.2 1) (a0 := (64, .inl zz0)) (atype := .int) (N := 64) B wa_int rfl (fun C h => by cases h) (by rw [vp_cell_i]; rfl) (by decide) (by decide) (Nat.le_of_ble_eq_true rfl) (K1 := 108) rfl (Nat.le_of_ble_eq_true rfl) (Nat.le_of_ble_eq_true rfl) dX3_init_7 ?_
  refine zp_putF (i := 106) (f := 0) (fs := [.null, .int 0, .int 0, .long 0, .int 0]) B hname (by decide) hF106 cl3 inX3 tyX3 tyX3_ok nmX3 (by decide) wf_X3_9 rfl rfl rfl rfl rfl (Nat.le_of_ble_eq_true rfl) dX3_init_9 ?_
  exact zv_vret (pc := 12) B hr (fun H hP => ⟨(), rfl, hP.eq (zls (zls (zls (zls (zls (zls (zls (zls (zls (zls (zls (zls (zls (zls (zls (zls (zls (zls (zls (zls (zls (zls (zls (zls (zls (zls (zls (zls (zls (zls (zls (zls (zls (zls (zls (zls (zls (zls (zls (zls (zls (zls (zls (zls (zls (zls (zls (zls (zls (zls (zls (zls (zls (zls (zls (zls (zls (zls (zls (zls (zls (zls (zls (zls (zls (zls (zls (zls (zls (zls (zls (zls (zls (zls (zls (zls (zls (zls (zls (zls (zls (zls (zls (zls (zls (zls (zls (zls (zls (zls (zls (zls (zls (zls (zls (zls (zls (zls (zls (zls (zls (zls (zls (zls (zls (zls (zls (zls zl0 rfl) rfl) rfl) rfl) rfl) rfl) rfl) rfl) rfl) rfl) rfl) rfl) rfl) rfl) rfl) rfl) rfl) rfl) rfl) rfl) rfl) rfl) rfl) rfl) rfl) rfl) rfl) rfl) rfl) rfl) rfl) rfl) rfl) rfl) rfl) rfl) rfl) rfl) rfl) rfl) rfl) rfl) rfl) rfl) rfl) rfl) rfl) rfl) rfl) rfl) rfl) rfl) rfl) rfl) rfl) rfl) rfl) rfl) rfl) rfl) rfl) rfl) rfl) rfl) rfl) rfl) rfl) rfl) rfl) rfl) rfl) rfl) rfl) rfl) rfl) rfl) rfl) rfl) rfl) rfl) rfl) rfl) rfl) rfl) rfl) rfl) rfl) rfl) rfl) rfl) rfl) rfl) rfl) rfl) rfl) rfl) rfl) rfl) rfl) rfl) rfl) rfl) rfl) rfl) rfl) rfl) rfl) rfl)⟩) (Nat.le_of_ble_eq_true rfl) (Nat.le_of_ble_eq_true rfl) dX3_init_12
set_option maxRecDepth 100000 in
set_option maxHeartbeats 1000000 in
theorem k_X5_init_37 (l : Launch) (E : zE) (b : Nat) {F : Nat → va_E} (hF37 : F 37 = .inr (7, [.int 0, .int 0, .int 0, .int 0, .int 0, .null, .int 0, .int 0, .int 0, .int 0, .int 0, .int 0, .int 0])) : zM l yX5_init (.code yX5_init cX5_init 1 none :: zAll) (zRm 2 1 4) E b [.ref (b + 37)] (zPic E b 38 F) (fun v9 (_ : Unit) => v9 = none) (fun _ => zPic E b 39 (zfill E b 37 39 F)) 1 4 := by
  refine zM_of "ToneGraph$Voice" (by decide) rfl rfl (Nat.le_of_ble_eq_true rfl) (L0 := [(0, .ref (b + 37))]) rfl ?_
  intro p e s m args below meth c9 B hr hname
  refine zv_aload_n (pc := 0) B 0 rfl dX5_init_0 ?_
  refine zp_objI B wm_X5_3 wi_Object_init wcode_Object_init dX5_init_1 (Nat.le_of_ble_eq_true rfl) (Nat.le_of_ble_eq_true rfl) ?_
  refine zv_aload_n (pc := 4) B 0 rfl dX5_init_4 ?_
  refine zv_bipush (pc := 5) (v := 115) B rfl dX5_init_5 ?_
  refine zp_put (i := 37) (f := 4) (fs := [.int 0, .int 0, .int 0, .int 0, .int 0, .null, .int 0, .int 0, .int 0, .int 0, .int 0, .int 0, .int 0]) B (by decide) hF37 cl5 inX5 tyX5 tyX5_ok nmX5 (by decide) wf_X5_9 rfl rfl rfl rfl (Nat.le_of_ble_eq_true rfl) dX5_init_7 ?_
  refine zv_aload_n (pc := 10) B 0 rfl dX5_init_10 ?_
  refine zp_new (ci := 4) (fs := [.int 0, .int 0, .int 0, .int 0]) B inX2 tyX2 tyX2_ok cl2 wc_X5_15 wt_X2 wn_X2 (zls (zls (zls (zls zl0 rfl) rfl) rfl) rfl) (K1 := 39) rfl (Nat.le_of_ble_eq_true rfl) (Nat.le_of_ble_eq_true rfl) dX5_init_11 ?_
  refine zv_dup (pc := 14) B rfl dX5_init_14 ?_
  refine zv_iconst (pc := 15) (v := 0) B rfl dX5_init_15 ?_
  refine zv_iconst (pc := 16) (v := 0) B rfl dX5_init_16 ?_
  refine zv_sipush (pc := 17) (v := 1000) B rfl dX5_init_17 ?_
  refine zv_iconst (pc := 20) (v := 0) B rfl dX5_init_20 ?_
  refine zv_callI (pc := 21) (As := [.int 0, .int 0, .int 1000, .int 0]) (rest := [.ref (b + 38), .ref (b + 37)]) B (k_X2_init l E b (K := 39) (o := 38) (by decide) rfl 0 0 1000 0) (zcwI 4 1 B wm_X5_17 wi_X2_init wn_X2 wcode_X2_init rfl (by decide +kernel) ⟨(Nat.le_of_ble_eq_true rfl), (Nat.le_of_ble_eq_true rfl)⟩) rfl (fun H h => h) rfl (Nat.le_of_ble_eq_true rfl) dX5_init_21 ⟨(Nat.le_of_ble_eq_true rfl), (Nat.le_of_ble_eq_true rfl)⟩ (fun v9 u9 hv9 => ?_)
  subst hv9
  refine zv_st (st' := [.ref (b + 38), .ref (b + 37)]) rfl ?_
  refine zp_put (i := 37) (f := 5) (fs := [.int 0, .int 0, .int 0, .int 0, .int 115, .null, .int 0, .int 0, .int 0, .int 0, .int 0, .int 0, .int 0]) B (by decide) rfl cl5 inX5 tyX5 tyX5_ok nmX5 (by decide) wf_X5_20 rfl rfl rfl rfl (Nat.le_of_ble_eq_true rfl) dX5_init_24 ?_
  exact zv_vret (pc := 27) B hr (fun H hP => ⟨(), rfl, hP.eq (zls (zls (zls (zls (zls (zls (zls (zls (zls (zls (zls (zls (zls (zls (zls (zls (zls (zls (zls (zls (zls (zls (zls (zls (zls (zls (zls (zls (zls (zls (zls (zls (zls (zls (zls (zls (zls (zls (zls zl0 rfl) rfl) rfl) rfl) rfl) rfl) rfl) rfl) rfl) rfl) rfl) rfl) rfl) rfl) rfl) rfl) rfl) rfl) rfl) rfl) rfl) rfl) rfl) rfl) rfl) rfl) rfl) rfl) rfl) rfl) rfl) rfl) rfl) rfl) rfl) rfl) rfl) rfl) rfl)⟩) (Nat.le_of_ble_eq_true rfl) (Nat.le_of_ble_eq_true rfl) dX5_init_27
set_option maxRecDepth 100000 in
set_option maxHeartbeats 1000000 in
theorem k_X5_init_39 (l : Launch) (E : zE) (b : Nat) {F : Nat → va_E} (hF39 : F 39 = .inr (7, [.int 0, .int 0, .int 0, .int 0, .int 0, .null, .int 0, .int 0, .int 0, .int 0, .int 0, .int 0, .int 0])) : zM l yX5_init (.code yX5_init cX5_init 1 none :: zAll) (zRm 2 1 4) E b [.ref (b + 39)] (zPic E b 40 F) (fun v9 (_ : Unit) => v9 = none) (fun _ => zPic E b 41 (zfill E b 39 41 F)) 1 4 := by
  refine zM_of "ToneGraph$Voice" (by decide) rfl rfl (Nat.le_of_ble_eq_true rfl) (L0 := [(0, .ref (b + 39))]) rfl ?_
  intro p e s m args below meth c9 B hr hname
  refine zv_aload_n (pc := 0) B 0 rfl dX5_init_0 ?_
  refine zp_objI B wm_X5_3 wi_Object_init wcode_Object_init dX5_init_1 (Nat.le_of_ble_eq_true rfl) (Nat.le_of_ble_eq_true rfl) ?_
  refine zv_aload_n (pc := 4) B 0 rfl dX5_init_4 ?_
  refine zv_bipush (pc := 5) (v := 115) B rfl dX5_init_5 ?_
  refine zp_put (i := 39) (f := 4) (fs := [.int 0, .int 0, .int 0, .int 0, .int 0, .null, .int 0, .int 0, .int 0, .int 0, .int 0, .int 0, .int 0]) B (by decide) hF39 cl5 inX5 tyX5 tyX5_ok nmX5 (by decide) wf_X5_9 rfl rfl rfl rfl (Nat.le_of_ble_eq_true rfl) dX5_init_7 ?_
  refine zv_aload_n (pc := 10) B 0 rfl dX5_init_10 ?_
  refine zp_new (ci := 4) (fs := [.int 0, .int 0, .int 0, .int 0]) B inX2 tyX2 tyX2_ok cl2 wc_X5_15 wt_X2 wn_X2 (zls (zls (zls (zls zl0 rfl) rfl) rfl) rfl) (K1 := 41) rfl (Nat.le_of_ble_eq_true rfl) (Nat.le_of_ble_eq_true rfl) dX5_init_11 ?_
  refine zv_dup (pc := 14) B rfl dX5_init_14 ?_
  refine zv_iconst (pc := 15) (v := 0) B rfl dX5_init_15 ?_
  refine zv_iconst (pc := 16) (v := 0) B rfl dX5_init_16 ?_
  refine zv_sipush (pc := 17) (v := 1000) B rfl dX5_init_17 ?_
  refine zv_iconst (pc := 20) (v := 0) B rfl dX5_init_20 ?_
  refine zv_callI (pc := 21) (As := [.int 0, .int 0, .int 1000, .int 0]) (rest := [.ref (b + 40), .ref (b + 39)]) B (k_X2_init l E b (K := 41) (o := 40) (by decide) rfl 0 0 1000 0) (zcwI 4 1 B wm_X5_17 wi_X2_init wn_X2 wcode_X2_init rfl (by decide +kernel) ⟨(Nat.le_of_ble_eq_true rfl), (Nat.le_of_ble_eq_true rfl)⟩) rfl (fun H h => h) rfl (Nat.le_of_ble_eq_true rfl) dX5_init_21 ⟨(Nat.le_of_ble_eq_true rfl), (Nat.le_of_ble_eq_true rfl)⟩ (fun v9 u9 hv9 => ?_)
  subst hv9
  refine zv_st (st' := [.ref (b + 40), .ref (b + 39)]) rfl ?_
  refine zp_put (i := 39) (f := 5) (fs := [.int 0, .int 0, .int 0, .int 0, .int 115, .null, .int 0, .int 0, .int 0, .int 0, .int 0, .int 0, .int 0]) B (by decide) rfl cl5 inX5 tyX5 tyX5_ok nmX5 (by decide) wf_X5_20 rfl rfl rfl rfl (Nat.le_of_ble_eq_true rfl) dX5_init_24 ?_
  exact zv_vret (pc := 27) B hr (fun H hP => ⟨(), rfl, hP.eq (zls (zls (zls (zls (zls (zls (zls (zls (zls (zls (zls (zls (zls (zls (zls (zls (zls (zls (zls (zls (zls (zls (zls (zls (zls (zls (zls (zls (zls (zls (zls (zls (zls (zls (zls (zls (zls (zls (zls (zls (zls zl0 rfl) rfl) rfl) rfl) rfl) rfl) rfl) rfl) rfl) rfl) rfl) rfl) rfl) rfl) rfl) rfl) rfl) rfl) rfl) rfl) rfl) rfl) rfl) rfl) rfl) rfl) rfl) rfl) rfl) rfl) rfl) rfl) rfl) rfl) rfl) rfl) rfl) rfl) rfl) rfl) rfl)⟩) (Nat.le_of_ble_eq_true rfl) (Nat.le_of_ble_eq_true rfl) dX5_init_27
set_option maxRecDepth 100000 in
set_option maxHeartbeats 1000000 in
theorem k_X5_init_41 (l : Launch) (E : zE) (b : Nat) {F : Nat → va_E} (hF41 : F 41 = .inr (7, [.int 0, .int 0, .int 0, .int 0, .int 0, .null, .int 0, .int 0, .int 0, .int 0, .int 0, .int 0, .int 0])) : zM l yX5_init (.code yX5_init cX5_init 1 none :: zAll) (zRm 2 1 4) E b [.ref (b + 41)] (zPic E b 42 F) (fun v9 (_ : Unit) => v9 = none) (fun _ => zPic E b 43 (zfill E b 41 43 F)) 1 4 := by
  refine zM_of "ToneGraph$Voice" (by decide) rfl rfl (Nat.le_of_ble_eq_true rfl) (L0 := [(0, .ref (b + 41))]) rfl ?_
  intro p e s m args below meth c9 B hr hname
  refine zv_aload_n (pc := 0) B 0 rfl dX5_init_0 ?_
  refine zp_objI B wm_X5_3 wi_Object_init wcode_Object_init dX5_init_1 (Nat.le_of_ble_eq_true rfl) (Nat.le_of_ble_eq_true rfl) ?_
  refine zv_aload_n (pc := 4) B 0 rfl dX5_init_4 ?_
  refine zv_bipush (pc := 5) (v := 115) B rfl dX5_init_5 ?_
  refine zp_put (i := 41) (f := 4) (fs := [.int 0, .int 0, .int 0, .int 0, .int 0, .null, .int 0, .int 0, .int 0, .int 0, .int 0, .int 0, .int 0]) B (by decide) hF41 cl5 inX5 tyX5 tyX5_ok nmX5 (by decide) wf_X5_9 rfl rfl rfl rfl (Nat.le_of_ble_eq_true rfl) dX5_init_7 ?_
  refine zv_aload_n (pc := 10) B 0 rfl dX5_init_10 ?_
  refine zp_new (ci := 4) (fs := [.int 0, .int 0, .int 0, .int 0]) B inX2 tyX2 tyX2_ok cl2 wc_X5_15 wt_X2 wn_X2 (zls (zls (zls (zls zl0 rfl) rfl) rfl) rfl) (K1 := 43) rfl (Nat.le_of_ble_eq_true rfl) (Nat.le_of_ble_eq_true rfl) dX5_init_11 ?_
  refine zv_dup (pc := 14) B rfl dX5_init_14 ?_
  refine zv_iconst (pc := 15) (v := 0) B rfl dX5_init_15 ?_
  refine zv_iconst (pc := 16) (v := 0) B rfl dX5_init_16 ?_
  refine zv_sipush (pc := 17) (v := 1000) B rfl dX5_init_17 ?_
  refine zv_iconst (pc := 20) (v := 0) B rfl dX5_init_20 ?_
  refine zv_callI (pc := 21) (As := [.int 0, .int 0, .int 1000, .int 0]) (rest := [.ref (b + 42), .ref (b + 41)]) B (k_X2_init l E b (K := 43) (o := 42) (by decide) rfl 0 0 1000 0) (zcwI 4 1 B wm_X5_17 wi_X2_init wn_X2 wcode_X2_init rfl (by decide +kernel) ⟨(Nat.le_of_ble_eq_true rfl), (Nat.le_of_ble_eq_true rfl)⟩) rfl (fun H h => h) rfl (Nat.le_of_ble_eq_true rfl) dX5_init_21 ⟨(Nat.le_of_ble_eq_true rfl), (Nat.le_of_ble_eq_true rfl)⟩ (fun v9 u9 hv9 => ?_)
  subst hv9
  refine zv_st (st' := [.ref (b + 42), .ref (b + 41)]) rfl ?_
  refine zp_put (i := 41) (f := 5) (fs := [.int 0, .int 0, .int 0, .int 0, .int 115, .null, .int 0, .int 0, .int 0, .int 0, .int 0, .int 0, .int 0]) B (by decide) rfl cl5 inX5 tyX5 tyX5_ok nmX5 (by decide) wf_X5_20 rfl rfl rfl rfl (Nat.le_of_ble_eq_true rfl) dX5_init_24 ?_
  exact zv_vret (pc := 27) B hr (fun H hP => ⟨(), rfl, hP.eq (zls (zls (zls (zls (zls (zls (zls (zls (zls (zls (zls (zls (zls (zls (zls (zls (zls (zls (zls (zls (zls (zls (zls (zls (zls (zls (zls (zls (zls (zls (zls (zls (zls (zls (zls (zls (zls (zls (zls (zls (zls (zls (zls zl0 rfl) rfl) rfl) rfl) rfl) rfl) rfl) rfl) rfl) rfl) rfl) rfl) rfl) rfl) rfl) rfl) rfl) rfl) rfl) rfl) rfl) rfl) rfl) rfl) rfl) rfl) rfl) rfl) rfl) rfl) rfl) rfl) rfl) rfl) rfl) rfl) rfl) rfl) rfl) rfl) rfl) rfl) rfl)⟩) (Nat.le_of_ble_eq_true rfl) (Nat.le_of_ble_eq_true rfl) dX5_init_27
set_option maxRecDepth 100000 in
set_option maxHeartbeats 1000000 in
theorem k_X5_init_43 (l : Launch) (E : zE) (b : Nat) {F : Nat → va_E} (hF43 : F 43 = .inr (7, [.int 0, .int 0, .int 0, .int 0, .int 0, .null, .int 0, .int 0, .int 0, .int 0, .int 0, .int 0, .int 0])) : zM l yX5_init (.code yX5_init cX5_init 1 none :: zAll) (zRm 2 1 4) E b [.ref (b + 43)] (zPic E b 44 F) (fun v9 (_ : Unit) => v9 = none) (fun _ => zPic E b 45 (zfill E b 43 45 F)) 1 4 := by
  refine zM_of "ToneGraph$Voice" (by decide) rfl rfl (Nat.le_of_ble_eq_true rfl) (L0 := [(0, .ref (b + 43))]) rfl ?_
  intro p e s m args below meth c9 B hr hname
  refine zv_aload_n (pc := 0) B 0 rfl dX5_init_0 ?_
  refine zp_objI B wm_X5_3 wi_Object_init wcode_Object_init dX5_init_1 (Nat.le_of_ble_eq_true rfl) (Nat.le_of_ble_eq_true rfl) ?_
  refine zv_aload_n (pc := 4) B 0 rfl dX5_init_4 ?_
  refine zv_bipush (pc := 5) (v := 115) B rfl dX5_init_5 ?_
  refine zp_put (i := 43) (f := 4) (fs := [.int 0, .int 0, .int 0, .int 0, .int 0, .null, .int 0, .int 0, .int 0, .int 0, .int 0, .int 0, .int 0]) B (by decide) hF43 cl5 inX5 tyX5 tyX5_ok nmX5 (by decide) wf_X5_9 rfl rfl rfl rfl (Nat.le_of_ble_eq_true rfl) dX5_init_7 ?_
  refine zv_aload_n (pc := 10) B 0 rfl dX5_init_10 ?_
  refine zp_new (ci := 4) (fs := [.int 0, .int 0, .int 0, .int 0]) B inX2 tyX2 tyX2_ok cl2 wc_X5_15 wt_X2 wn_X2 (zls (zls (zls (zls zl0 rfl) rfl) rfl) rfl) (K1 := 45) rfl (Nat.le_of_ble_eq_true rfl) (Nat.le_of_ble_eq_true rfl) dX5_init_11 ?_
  refine zv_dup (pc := 14) B rfl dX5_init_14 ?_
  refine zv_iconst (pc := 15) (v := 0) B rfl dX5_init_15 ?_
  refine zv_iconst (pc := 16) (v := 0) B rfl dX5_init_16 ?_
  refine zv_sipush (pc := 17) (v := 1000) B rfl dX5_init_17 ?_
  refine zv_iconst (pc := 20) (v := 0) B rfl dX5_init_20 ?_
  refine zv_callI (pc := 21) (As := [.int 0, .int 0, .int 1000, .int 0]) (rest := [.ref (b + 44), .ref (b + 43)]) B (k_X2_init l E b (K := 45) (o := 44) (by decide) rfl 0 0 1000 0) (zcwI 4 1 B wm_X5_17 wi_X2_init wn_X2 wcode_X2_init rfl (by decide +kernel) ⟨(Nat.le_of_ble_eq_true rfl), (Nat.le_of_ble_eq_true rfl)⟩) rfl (fun H h => h) rfl (Nat.le_of_ble_eq_true rfl) dX5_init_21 ⟨(Nat.le_of_ble_eq_true rfl), (Nat.le_of_ble_eq_true rfl)⟩ (fun v9 u9 hv9 => ?_)
  subst hv9
  refine zv_st (st' := [.ref (b + 44), .ref (b + 43)]) rfl ?_
  refine zp_put (i := 43) (f := 5) (fs := [.int 0, .int 0, .int 0, .int 0, .int 115, .null, .int 0, .int 0, .int 0, .int 0, .int 0, .int 0, .int 0]) B (by decide) rfl cl5 inX5 tyX5 tyX5_ok nmX5 (by decide) wf_X5_20 rfl rfl rfl rfl (Nat.le_of_ble_eq_true rfl) dX5_init_24 ?_
  exact zv_vret (pc := 27) B hr (fun H hP => ⟨(), rfl, hP.eq (zls (zls (zls (zls (zls (zls (zls (zls (zls (zls (zls (zls (zls (zls (zls (zls (zls (zls (zls (zls (zls (zls (zls (zls (zls (zls (zls (zls (zls (zls (zls (zls (zls (zls (zls (zls (zls (zls (zls (zls (zls (zls (zls (zls (zls zl0 rfl) rfl) rfl) rfl) rfl) rfl) rfl) rfl) rfl) rfl) rfl) rfl) rfl) rfl) rfl) rfl) rfl) rfl) rfl) rfl) rfl) rfl) rfl) rfl) rfl) rfl) rfl) rfl) rfl) rfl) rfl) rfl) rfl) rfl) rfl) rfl) rfl) rfl) rfl) rfl) rfl) rfl) rfl) rfl) rfl)⟩) (Nat.le_of_ble_eq_true rfl) (Nat.le_of_ble_eq_true rfl) dX5_init_27
set_option maxRecDepth 100000 in
set_option maxHeartbeats 1000000 in
theorem k_X5_init_73 (l : Launch) (E : zE) (b : Nat) {F : Nat → va_E} (hF73 : F 73 = .inr (7, [.int 0, .int 0, .int 0, .int 0, .int 0, .null, .int 0, .int 0, .int 0, .int 0, .int 0, .int 0, .int 0])) : zM l yX5_init (.code yX5_init cX5_init 1 none :: zAll) (zRm 2 1 4) E b [.ref (b + 73)] (zPic E b 74 F) (fun v9 (_ : Unit) => v9 = none) (fun _ => zPic E b 75 (zfill E b 73 75 F)) 1 4 := by
  refine zM_of "ToneGraph$Voice" (by decide) rfl rfl (Nat.le_of_ble_eq_true rfl) (L0 := [(0, .ref (b + 73))]) rfl ?_
  intro p e s m args below meth c9 B hr hname
  refine zv_aload_n (pc := 0) B 0 rfl dX5_init_0 ?_
  refine zp_objI B wm_X5_3 wi_Object_init wcode_Object_init dX5_init_1 (Nat.le_of_ble_eq_true rfl) (Nat.le_of_ble_eq_true rfl) ?_
  refine zv_aload_n (pc := 4) B 0 rfl dX5_init_4 ?_
  refine zv_bipush (pc := 5) (v := 115) B rfl dX5_init_5 ?_
  refine zp_put (i := 73) (f := 4) (fs := [.int 0, .int 0, .int 0, .int 0, .int 0, .null, .int 0, .int 0, .int 0, .int 0, .int 0, .int 0, .int 0]) B (by decide) hF73 cl5 inX5 tyX5 tyX5_ok nmX5 (by decide) wf_X5_9 rfl rfl rfl rfl (Nat.le_of_ble_eq_true rfl) dX5_init_7 ?_
  refine zv_aload_n (pc := 10) B 0 rfl dX5_init_10 ?_
  refine zp_new (ci := 4) (fs := [.int 0, .int 0, .int 0, .int 0]) B inX2 tyX2 tyX2_ok cl2 wc_X5_15 wt_X2 wn_X2 (zls (zls (zls (zls zl0 rfl) rfl) rfl) rfl) (K1 := 75) rfl (Nat.le_of_ble_eq_true rfl) (Nat.le_of_ble_eq_true rfl) dX5_init_11 ?_
  refine zv_dup (pc := 14) B rfl dX5_init_14 ?_
  refine zv_iconst (pc := 15) (v := 0) B rfl dX5_init_15 ?_
  refine zv_iconst (pc := 16) (v := 0) B rfl dX5_init_16 ?_
  refine zv_sipush (pc := 17) (v := 1000) B rfl dX5_init_17 ?_
  refine zv_iconst (pc := 20) (v := 0) B rfl dX5_init_20 ?_
  refine zv_callI (pc := 21) (As := [.int 0, .int 0, .int 1000, .int 0]) (rest := [.ref (b + 74), .ref (b + 73)]) B (k_X2_init l E b (K := 75) (o := 74) (by decide) rfl 0 0 1000 0) (zcwI 4 1 B wm_X5_17 wi_X2_init wn_X2 wcode_X2_init rfl (by decide +kernel) ⟨(Nat.le_of_ble_eq_true rfl), (Nat.le_of_ble_eq_true rfl)⟩) rfl (fun H h => h) rfl (Nat.le_of_ble_eq_true rfl) dX5_init_21 ⟨(Nat.le_of_ble_eq_true rfl), (Nat.le_of_ble_eq_true rfl)⟩ (fun v9 u9 hv9 => ?_)
  subst hv9
  refine zv_st (st' := [.ref (b + 74), .ref (b + 73)]) rfl ?_
  refine zp_put (i := 73) (f := 5) (fs := [.int 0, .int 0, .int 0, .int 0, .int 115, .null, .int 0, .int 0, .int 0, .int 0, .int 0, .int 0, .int 0]) B (by decide) rfl cl5 inX5 tyX5 tyX5_ok nmX5 (by decide) wf_X5_20 rfl rfl rfl rfl (Nat.le_of_ble_eq_true rfl) dX5_init_24 ?_
  exact zv_vret (pc := 27) B hr (fun H hP => ⟨(), rfl, hP.eq (zls (zls (zls (zls (zls (zls (zls (zls (zls (zls (zls (zls (zls (zls (zls (zls (zls (zls (zls (zls (zls (zls (zls (zls (zls (zls (zls (zls (zls (zls (zls (zls (zls (zls (zls (zls (zls (zls (zls (zls (zls (zls (zls (zls (zls (zls (zls (zls (zls (zls (zls (zls (zls (zls (zls (zls (zls (zls (zls (zls (zls (zls (zls (zls (zls (zls (zls (zls (zls (zls (zls (zls (zls (zls (zls zl0 rfl) rfl) rfl) rfl) rfl) rfl) rfl) rfl) rfl) rfl) rfl) rfl) rfl) rfl) rfl) rfl) rfl) rfl) rfl) rfl) rfl) rfl) rfl) rfl) rfl) rfl) rfl) rfl) rfl) rfl) rfl) rfl) rfl) rfl) rfl) rfl) rfl) rfl) rfl) rfl) rfl) rfl) rfl) rfl) rfl) rfl) rfl) rfl) rfl) rfl) rfl) rfl) rfl) rfl) rfl) rfl) rfl) rfl) rfl) rfl) rfl) rfl) rfl) rfl) rfl) rfl) rfl) rfl) rfl) rfl) rfl) rfl) rfl) rfl) rfl)⟩) (Nat.le_of_ble_eq_true rfl) (Nat.le_of_ble_eq_true rfl) dX5_init_27
set_option maxRecDepth 100000 in
set_option maxHeartbeats 1000000 in
theorem k_X5_init_75 (l : Launch) (E : zE) (b : Nat) {F : Nat → va_E} (hF75 : F 75 = .inr (7, [.int 0, .int 0, .int 0, .int 0, .int 0, .null, .int 0, .int 0, .int 0, .int 0, .int 0, .int 0, .int 0])) : zM l yX5_init (.code yX5_init cX5_init 1 none :: zAll) (zRm 2 1 4) E b [.ref (b + 75)] (zPic E b 76 F) (fun v9 (_ : Unit) => v9 = none) (fun _ => zPic E b 77 (zfill E b 75 77 F)) 1 4 := by
  refine zM_of "ToneGraph$Voice" (by decide) rfl rfl (Nat.le_of_ble_eq_true rfl) (L0 := [(0, .ref (b + 75))]) rfl ?_
  intro p e s m args below meth c9 B hr hname
  refine zv_aload_n (pc := 0) B 0 rfl dX5_init_0 ?_
  refine zp_objI B wm_X5_3 wi_Object_init wcode_Object_init dX5_init_1 (Nat.le_of_ble_eq_true rfl) (Nat.le_of_ble_eq_true rfl) ?_
  refine zv_aload_n (pc := 4) B 0 rfl dX5_init_4 ?_
  refine zv_bipush (pc := 5) (v := 115) B rfl dX5_init_5 ?_
  refine zp_put (i := 75) (f := 4) (fs := [.int 0, .int 0, .int 0, .int 0, .int 0, .null, .int 0, .int 0, .int 0, .int 0, .int 0, .int 0, .int 0]) B (by decide) hF75 cl5 inX5 tyX5 tyX5_ok nmX5 (by decide) wf_X5_9 rfl rfl rfl rfl (Nat.le_of_ble_eq_true rfl) dX5_init_7 ?_
  refine zv_aload_n (pc := 10) B 0 rfl dX5_init_10 ?_
  refine zp_new (ci := 4) (fs := [.int 0, .int 0, .int 0, .int 0]) B inX2 tyX2 tyX2_ok cl2 wc_X5_15 wt_X2 wn_X2 (zls (zls (zls (zls zl0 rfl) rfl) rfl) rfl) (K1 := 77) rfl (Nat.le_of_ble_eq_true rfl) (Nat.le_of_ble_eq_true rfl) dX5_init_11 ?_
  refine zv_dup (pc := 14) B rfl dX5_init_14 ?_
  refine zv_iconst (pc := 15) (v := 0) B rfl dX5_init_15 ?_
  refine zv_iconst (pc := 16) (v := 0) B rfl dX5_init_16 ?_
  refine zv_sipush (pc := 17) (v := 1000) B rfl dX5_init_17 ?_
  refine zv_iconst (pc := 20) (v := 0) B rfl dX5_init_20 ?_
  refine zv_callI (pc := 21) (As := [.int 0, .int 0, .int 1000, .int 0]) (rest := [.ref (b + 76), .ref (b + 75)]) B (k_X2_init l E b (K := 77) (o := 76) (by decide) rfl 0 0 1000 0) (zcwI 4 1 B wm_X5_17 wi_X2_init wn_X2 wcode_X2_init rfl (by decide +kernel) ⟨(Nat.le_of_ble_eq_true rfl), (Nat.le_of_ble_eq_true rfl)⟩) rfl (fun H h => h) rfl (Nat.le_of_ble_eq_true rfl) dX5_init_21 ⟨(Nat.le_of_ble_eq_true rfl), (Nat.le_of_ble_eq_true rfl)⟩ (fun v9 u9 hv9 => ?_)
  subst hv9
  refine zv_st (st' := [.ref (b + 76), .ref (b + 75)]) rfl ?_
  refine zp_put (i := 75) (f := 5) (fs := [.int 0, .int 0, .int 0, .int 0, .int 115, .null, .int 0, .int 0, .int 0, .int 0, .int 0, .int 0, .int 0]) B (by decide) rfl cl5 inX5 tyX5 tyX5_ok nmX5 (by decide) wf_X5_20 rfl rfl rfl rfl (Nat.le_of_ble_eq_true rfl) dX5_init_24 ?_
  exact zv_vret (pc := 27) B hr (fun H hP => ⟨(), rfl, hP.eq (zls (zls (zls (zls (zls (zls (zls (zls (zls (zls (zls (zls (zls (zls (zls (zls (zls (zls (zls (zls (zls (zls (zls (zls (zls (zls (zls (zls (zls (zls (zls (zls (zls (zls (zls (zls (zls (zls (zls (zls (zls (zls (zls (zls (zls (zls (zls (zls (zls (zls (zls (zls (zls (zls (zls (zls (zls (zls (zls (zls (zls (zls (zls (zls (zls (zls (zls (zls (zls (zls (zls (zls (zls (zls (zls (zls (zls zl0 rfl) rfl) rfl) rfl) rfl) rfl) rfl) rfl) rfl) rfl) rfl) rfl) rfl) rfl) rfl) rfl) rfl) rfl) rfl) rfl) rfl) rfl) rfl) rfl) rfl) rfl) rfl) rfl) rfl) rfl) rfl) rfl) rfl) rfl) rfl) rfl) rfl) rfl) rfl) rfl) rfl) rfl) rfl) rfl) rfl) rfl) rfl) rfl) rfl) rfl) rfl) rfl) rfl) rfl) rfl) rfl) rfl) rfl) rfl) rfl) rfl) rfl) rfl) rfl) rfl) rfl) rfl) rfl) rfl) rfl) rfl) rfl) rfl) rfl) rfl) rfl) rfl)⟩) (Nat.le_of_ble_eq_true rfl) (Nat.le_of_ble_eq_true rfl) dX5_init_27
set_option maxRecDepth 100000 in
set_option maxHeartbeats 1000000 in
theorem k_X5_init_77 (l : Launch) (E : zE) (b : Nat) {F : Nat → va_E} (hF77 : F 77 = .inr (7, [.int 0, .int 0, .int 0, .int 0, .int 0, .null, .int 0, .int 0, .int 0, .int 0, .int 0, .int 0, .int 0])) : zM l yX5_init (.code yX5_init cX5_init 1 none :: zAll) (zRm 2 1 4) E b [.ref (b + 77)] (zPic E b 78 F) (fun v9 (_ : Unit) => v9 = none) (fun _ => zPic E b 79 (zfill E b 77 79 F)) 1 4 := by
  refine zM_of "ToneGraph$Voice" (by decide) rfl rfl (Nat.le_of_ble_eq_true rfl) (L0 := [(0, .ref (b + 77))]) rfl ?_
  intro p e s m args below meth c9 B hr hname
  refine zv_aload_n (pc := 0) B 0 rfl dX5_init_0 ?_
  refine zp_objI B wm_X5_3 wi_Object_init wcode_Object_init dX5_init_1 (Nat.le_of_ble_eq_true rfl) (Nat.le_of_ble_eq_true rfl) ?_
  refine zv_aload_n (pc := 4) B 0 rfl dX5_init_4 ?_
  refine zv_bipush (pc := 5) (v := 115) B rfl dX5_init_5 ?_
  refine zp_put (i := 77) (f := 4) (fs := [.int 0, .int 0, .int 0, .int 0, .int 0, .null, .int 0, .int 0, .int 0, .int 0, .int 0, .int 0, .int 0]) B (by decide) hF77 cl5 inX5 tyX5 tyX5_ok nmX5 (by decide) wf_X5_9 rfl rfl rfl rfl (Nat.le_of_ble_eq_true rfl) dX5_init_7 ?_
  refine zv_aload_n (pc := 10) B 0 rfl dX5_init_10 ?_
  refine zp_new (ci := 4) (fs := [.int 0, .int 0, .int 0, .int 0]) B inX2 tyX2 tyX2_ok cl2 wc_X5_15 wt_X2 wn_X2 (zls (zls (zls (zls zl0 rfl) rfl) rfl) rfl) (K1 := 79) rfl (Nat.le_of_ble_eq_true rfl) (Nat.le_of_ble_eq_true rfl) dX5_init_11 ?_
  refine zv_dup (pc := 14) B rfl dX5_init_14 ?_
  refine zv_iconst (pc := 15) (v := 0) B rfl dX5_init_15 ?_
  refine zv_iconst (pc := 16) (v := 0) B rfl dX5_init_16 ?_
  refine zv_sipush (pc := 17) (v := 1000) B rfl dX5_init_17 ?_
  refine zv_iconst (pc := 20) (v := 0) B rfl dX5_init_20 ?_
  refine zv_callI (pc := 21) (As := [.int 0, .int 0, .int 1000, .int 0]) (rest := [.ref (b + 78), .ref (b + 77)]) B (k_X2_init l E b (K := 79) (o := 78) (by decide) rfl 0 0 1000 0) (zcwI 4 1 B wm_X5_17 wi_X2_init wn_X2 wcode_X2_init rfl (by decide +kernel) ⟨(Nat.le_of_ble_eq_true rfl), (Nat.le_of_ble_eq_true rfl)⟩) rfl (fun H h => h) rfl (Nat.le_of_ble_eq_true rfl) dX5_init_21 ⟨(Nat.le_of_ble_eq_true rfl), (Nat.le_of_ble_eq_true rfl)⟩ (fun v9 u9 hv9 => ?_)
  subst hv9
  refine zv_st (st' := [.ref (b + 78), .ref (b + 77)]) rfl ?_
  refine zp_put (i := 77) (f := 5) (fs := [.int 0, .int 0, .int 0, .int 0, .int 115, .null, .int 0, .int 0, .int 0, .int 0, .int 0, .int 0, .int 0]) B (by decide) rfl cl5 inX5 tyX5 tyX5_ok nmX5 (by decide) wf_X5_20 rfl rfl rfl rfl (Nat.le_of_ble_eq_true rfl) dX5_init_24 ?_
  exact zv_vret (pc := 27) B hr (fun H hP => ⟨(), rfl, hP.eq (zls (zls (zls (zls (zls (zls (zls (zls (zls (zls (zls (zls (zls (zls (zls (zls (zls (zls (zls (zls (zls (zls (zls (zls (zls (zls (zls (zls (zls (zls (zls (zls (zls (zls (zls (zls (zls (zls (zls (zls (zls (zls (zls (zls (zls (zls (zls (zls (zls (zls (zls (zls (zls (zls (zls (zls (zls (zls (zls (zls (zls (zls (zls (zls (zls (zls (zls (zls (zls (zls (zls (zls (zls (zls (zls (zls (zls (zls (zls zl0 rfl) rfl) rfl) rfl) rfl) rfl) rfl) rfl) rfl) rfl) rfl) rfl) rfl) rfl) rfl) rfl) rfl) rfl) rfl) rfl) rfl) rfl) rfl) rfl) rfl) rfl) rfl) rfl) rfl) rfl) rfl) rfl) rfl) rfl) rfl) rfl) rfl) rfl) rfl) rfl) rfl) rfl) rfl) rfl) rfl) rfl) rfl) rfl) rfl) rfl) rfl) rfl) rfl) rfl) rfl) rfl) rfl) rfl) rfl) rfl) rfl) rfl) rfl) rfl) rfl) rfl) rfl) rfl) rfl) rfl) rfl) rfl) rfl) rfl) rfl) rfl) rfl) rfl) rfl)⟩) (Nat.le_of_ble_eq_true rfl) (Nat.le_of_ble_eq_true rfl) dX5_init_27
set_option maxRecDepth 100000 in
set_option maxHeartbeats 1000000 in
theorem k_X5_init_79 (l : Launch) (E : zE) (b : Nat) {F : Nat → va_E} (hF79 : F 79 = .inr (7, [.int 0, .int 0, .int 0, .int 0, .int 0, .null, .int 0, .int 0, .int 0, .int 0, .int 0, .int 0, .int 0])) : zM l yX5_init (.code yX5_init cX5_init 1 none :: zAll) (zRm 2 1 4) E b [.ref (b + 79)] (zPic E b 80 F) (fun v9 (_ : Unit) => v9 = none) (fun _ => zPic E b 81 (zfill E b 79 81 F)) 1 4 := by
  refine zM_of "ToneGraph$Voice" (by decide) rfl rfl (Nat.le_of_ble_eq_true rfl) (L0 := [(0, .ref (b + 79))]) rfl ?_
  intro p e s m args below meth c9 B hr hname
  refine zv_aload_n (pc := 0) B 0 rfl dX5_init_0 ?_
  refine zp_objI B wm_X5_3 wi_Object_init wcode_Object_init dX5_init_1 (Nat.le_of_ble_eq_true rfl) (Nat.le_of_ble_eq_true rfl) ?_
  refine zv_aload_n (pc := 4) B 0 rfl dX5_init_4 ?_
  refine zv_bipush (pc := 5) (v := 115) B rfl dX5_init_5 ?_
  refine zp_put (i := 79) (f := 4) (fs := [.int 0, .int 0, .int 0, .int 0, .int 0, .null, .int 0, .int 0, .int 0, .int 0, .int 0, .int 0, .int 0]) B (by decide) hF79 cl5 inX5 tyX5 tyX5_ok nmX5 (by decide) wf_X5_9 rfl rfl rfl rfl (Nat.le_of_ble_eq_true rfl) dX5_init_7 ?_
  refine zv_aload_n (pc := 10) B 0 rfl dX5_init_10 ?_
  refine zp_new (ci := 4) (fs := [.int 0, .int 0, .int 0, .int 0]) B inX2 tyX2 tyX2_ok cl2 wc_X5_15 wt_X2 wn_X2 (zls (zls (zls (zls zl0 rfl) rfl) rfl) rfl) (K1 := 81) rfl (Nat.le_of_ble_eq_true rfl) (Nat.le_of_ble_eq_true rfl) dX5_init_11 ?_
  refine zv_dup (pc := 14) B rfl dX5_init_14 ?_
  refine zv_iconst (pc := 15) (v := 0) B rfl dX5_init_15 ?_
  refine zv_iconst (pc := 16) (v := 0) B rfl dX5_init_16 ?_
  refine zv_sipush (pc := 17) (v := 1000) B rfl dX5_init_17 ?_
  refine zv_iconst (pc := 20) (v := 0) B rfl dX5_init_20 ?_
  refine zv_callI (pc := 21) (As := [.int 0, .int 0, .int 1000, .int 0]) (rest := [.ref (b + 80), .ref (b + 79)]) B (k_X2_init l E b (K := 81) (o := 80) (by decide) rfl 0 0 1000 0) (zcwI 4 1 B wm_X5_17 wi_X2_init wn_X2 wcode_X2_init rfl (by decide +kernel) ⟨(Nat.le_of_ble_eq_true rfl), (Nat.le_of_ble_eq_true rfl)⟩) rfl (fun H h => h) rfl (Nat.le_of_ble_eq_true rfl) dX5_init_21 ⟨(Nat.le_of_ble_eq_true rfl), (Nat.le_of_ble_eq_true rfl)⟩ (fun v9 u9 hv9 => ?_)
  subst hv9
  refine zv_st (st' := [.ref (b + 80), .ref (b + 79)]) rfl ?_
  refine zp_put (i := 79) (f := 5) (fs := [.int 0, .int 0, .int 0, .int 0, .int 115, .null, .int 0, .int 0, .int 0, .int 0, .int 0, .int 0, .int 0]) B (by decide) rfl cl5 inX5 tyX5 tyX5_ok nmX5 (by decide) wf_X5_20 rfl rfl rfl rfl (Nat.le_of_ble_eq_true rfl) dX5_init_24 ?_
  exact zv_vret (pc := 27) B hr (fun H hP => ⟨(), rfl, hP.eq (zls (zls (zls (zls (zls (zls (zls (zls (zls (zls (zls (zls (zls (zls (zls (zls (zls (zls (zls (zls (zls (zls (zls (zls (zls (zls (zls (zls (zls (zls (zls (zls (zls (zls (zls (zls (zls (zls (zls (zls (zls (zls (zls (zls (zls (zls (zls (zls (zls (zls (zls (zls (zls (zls (zls (zls (zls (zls (zls (zls (zls (zls (zls (zls (zls (zls (zls (zls (zls (zls (zls (zls (zls (zls (zls (zls (zls (zls (zls (zls (zls zl0 rfl) rfl) rfl) rfl) rfl) rfl) rfl) rfl) rfl) rfl) rfl) rfl) rfl) rfl) rfl) rfl) rfl) rfl) rfl) rfl) rfl) rfl) rfl) rfl) rfl) rfl) rfl) rfl) rfl) rfl) rfl) rfl) rfl) rfl) rfl) rfl) rfl) rfl) rfl) rfl) rfl) rfl) rfl) rfl) rfl) rfl) rfl) rfl) rfl) rfl) rfl) rfl) rfl) rfl) rfl) rfl) rfl) rfl) rfl) rfl) rfl) rfl) rfl) rfl) rfl) rfl) rfl) rfl) rfl) rfl) rfl) rfl) rfl) rfl) rfl) rfl) rfl) rfl) rfl) rfl) rfl)⟩) (Nat.le_of_ble_eq_true rfl) (Nat.le_of_ble_eq_true rfl) dX5_init_27
theorem zvo (b x : Nat) : va_up (va_up (va_up (va_up (fun _ => none) 0 (some (b + x))) 1 (some (b + (x + 2)))) 2 (some (b + (x + 4)))) 3 (some (b + (x + 6))) = fun j => if j < 4 then some (b + (x + 2 * j)) else none := by
  funext j
  by_cases h3 : j = 3
  · subst h3; simp [va_up]
  · by_cases h2 : j = 2
    · subst h2; simp [va_up]
    · by_cases h1 : j = 1
      · subst h1; simp [va_up]
      · by_cases h0 : j = 0
        · subst h0; simp [va_up]
        · rw [if_neg (by omega)]; simp [va_up, h0, h1, h2, h3]
set_option maxRecDepth 100000 in
set_option maxHeartbeats 1000000 in
theorem k_X1_init_35 (l : Launch) (E : zE) (b : Nat) {F : Nat → va_E} (hF35 : F 35 = .inr (3, [.null, .int 0, .int 0])) : zM l yX1_init (.code yX1_init cX1_init 2 none :: zAll) (zRm 3 9 72) E b [.ref (b + 35)] (zPic E b 36 F) (fun v9 (_ : Unit) => v9 = none) (fun _ => zPic E b 45 (zfill E b 35 45 F)) 9 72 := by
  refine zM_of "ToneGraph$Choir" (by decide) rfl rfl (Nat.le_of_ble_eq_true rfl) (L0 := [(0, .ref (b + 35))]) rfl ?_
  intro p e s m args below meth c9 B hr hname
  refine zv_aload_n (pc := 0) B 0 rfl dX1_init_0 ?_
  refine zp_objI B wm_X1_3 wi_Object_init wcode_Object_init dX1_init_1 (Nat.le_of_ble_eq_true rfl) (Nat.le_of_ble_eq_true rfl) ?_
  refine zv_aload_n (pc := 4) B 0 rfl dX1_init_4 ?_
  refine zv_iconst (pc := 5) (v := 4) B rfl dX1_init_5 ?_
  refine zp_newq (t0 := 3) (cA := E.2 3) (C := "ToneGraph$Voice") (N := 4) B wc_X1_9 B.2.2.2.2.2.1.2.2.2.2.1.1 rfl (by decide) (by decide) (Nat.le_of_ble_eq_true rfl) (K1 := 37) rfl (Nat.le_of_ble_eq_true rfl) (Nat.le_of_ble_eq_true rfl) dX1_init_6 ?_
  refine zp_putF (i := 35) (f := 0) (fs := [.null, .int 0, .int 0]) B hname (by decide) hF35 cl1 inX1 tyX1 tyX1_ok nmX1 (by decide) wf_X1_11 rfl rfl rfl rfl rfl (Nat.le_of_ble_eq_true rfl) dX1_init_9 ?_
  refine zv_iconst (pc := 12) (v := 0) B rfl dX1_init_12 ?_
  refine zv_istore_n (pc := 13) (L' := [(1, .int 0), (0, .ref (b + 35))]) B (by decide) rfl dX1_init_13 ?_
  refine zv_iload_n (pc := 14) B 0 rfl dX1_init_14 ?_
  refine zv_iconst (pc := 15) (v := 4) B rfl dX1_init_15 ?_
  refine zv_icmp_ge (pc := 16) (tgt := 38) B dX1_init_16 rfl (fun h9 => absurd h9 (by decide)) (fun _ => ?_)
  refine zv_aload_n (pc := 19) B 1 rfl dX1_init_19 ?_
  refine zv_get (pc := 20) (v := .ref (b + 36)) B (zp_hat (i := 35) (e1 := .inr (3, [.ref (b + 36), .int 0, .int 0])) (by decide) rfl) cl1 inX1 0 (by decide) wf_X1_11 rfl dX1_init_20 ?_
  refine zv_iload_n (pc := 23) B 0 rfl dX1_init_23 ?_
  refine zp_new (ci := 7) (fs := [.int 0, .int 0, .int 0, .int 0, .int 0, .null, .int 0, .int 0, .int 0, .int 0, .int 0, .int 0, .int 0]) B inX5 tyX5 tyX5_ok cl5 wc_X1_9 wt_X5 wn_X5 (zls (zls (zls (zls (zls (zls (zls (zls (zls (zls (zls (zls (zls zl0 rfl) rfl) rfl) rfl) rfl) rfl) rfl) rfl) rfl) rfl) rfl) rfl) rfl) (K1 := 38) rfl (Nat.le_of_ble_eq_true rfl) (Nat.le_of_ble_eq_true rfl) dX1_init_24 ?_
  refine zv_dup (pc := 27) B rfl dX1_init_27 ?_
  refine zv_callIN (pc := 28) (As := []) (rest := [.ref (b + 37), .int 0, .ref (b + 36)]) B (k_X5_init_37 l E b rfl) ⟨zcnB 0 2 1 B rfl wn_X5 wcode_X5_init (by decide +kernel) ⟨(Nat.le_of_ble_eq_true rfl), (Nat.le_of_ble_eq_true rfl)⟩, rfl, B.at wi_X5_init⟩ rfl (fun H h => h) rfl (Nat.le_of_ble_eq_true rfl) dX1_init_28 ⟨(Nat.le_of_ble_eq_true rfl), (Nat.le_of_ble_eq_true rfl)⟩ (fun v9 u9 hv9 => ?_)
  subst hv9
  refine zv_st (st' := [.ref (b + 37), .int 0, .ref (b + 36)]) rfl ?_
  refine zp_aast (i := 36) (jj := 0) (v := 37) B (by decide) rfl (by decide) rfl cl5 rfl (by decide) (by decide) dX1_init_31 ?_
  refine zv_iinc (pc := 32) (v := 1) (L' := [(1, .int 1), (0, .ref (b + 35))]) B 0 rfl rfl (by decide) rfl dX1_init_32 ?_
  refine zv_goto (pc := 35) (tgt := 14) B rfl dX1_init_35 ?_
  refine zv_iload_n (pc := 14) B 0 rfl dX1_init_14 ?_
  refine zv_iconst (pc := 15) (v := 4) B rfl dX1_init_15 ?_
  refine zv_icmp_ge (pc := 16) (tgt := 38) B dX1_init_16 rfl (fun h9 => absurd h9 (by decide)) (fun _ => ?_)
  refine zv_aload_n (pc := 19) B 1 rfl dX1_init_19 ?_
  refine zv_get (pc := 20) (v := .ref (b + 36)) B (zp_hat (i := 35) (e1 := .inr (3, [.ref (b + 36), .int 0, .int 0])) (by decide) rfl) cl1 inX1 0 (by decide) wf_X1_11 rfl dX1_init_20 ?_
  refine zv_iload_n (pc := 23) B 0 rfl dX1_init_23 ?_
  refine zp_new (ci := 7) (fs := [.int 0, .int 0, .int 0, .int 0, .int 0, .null, .int 0, .int 0, .int 0, .int 0, .int 0, .int 0, .int 0]) B inX5 tyX5 tyX5_ok cl5 wc_X1_9 wt_X5 wn_X5 (zls (zls (zls (zls (zls (zls (zls (zls (zls (zls (zls (zls (zls zl0 rfl) rfl) rfl) rfl) rfl) rfl) rfl) rfl) rfl) rfl) rfl) rfl) rfl) (K1 := 40) rfl (Nat.le_of_ble_eq_true rfl) (Nat.le_of_ble_eq_true rfl) dX1_init_24 ?_
  refine zv_dup (pc := 27) B rfl dX1_init_27 ?_
  refine zv_callIN (pc := 28) (As := []) (rest := [.ref (b + 39), .int 1, .ref (b + 36)]) B (k_X5_init_39 l E b rfl) ⟨zcnB 0 2 1 B rfl wn_X5 wcode_X5_init (by decide +kernel) ⟨(Nat.le_of_ble_eq_true rfl), (Nat.le_of_ble_eq_true rfl)⟩, rfl, B.at wi_X5_init⟩ rfl (fun H h => h) rfl (Nat.le_of_ble_eq_true rfl) dX1_init_28 ⟨(Nat.le_of_ble_eq_true rfl), (Nat.le_of_ble_eq_true rfl)⟩ (fun v9 u9 hv9 => ?_)
  subst hv9
  refine zv_st (st' := [.ref (b + 39), .int 1, .ref (b + 36)]) rfl ?_
  refine zp_aast (i := 36) (jj := 1) (v := 39) B (by decide) rfl (by decide) rfl cl5 rfl (by decide) (by decide) dX1_init_31 ?_
  refine zv_iinc (pc := 32) (v := 2) (L' := [(1, .int 2), (0, .ref (b + 35))]) B 0 rfl rfl (by decide) rfl dX1_init_32 ?_
  refine zv_goto (pc := 35) (tgt := 14) B rfl dX1_init_35 ?_
  refine zv_iload_n (pc := 14) B 0 rfl dX1_init_14 ?_
  refine zv_iconst (pc := 15) (v := 4) B rfl dX1_init_15 ?_
  refine zv_icmp_ge (pc := 16) (tgt := 38) B dX1_init_16 rfl (fun h9 => absurd h9 (by decide)) (fun _ => ?_)
  refine zv_aload_n (pc := 19) B 1 rfl dX1_init_19 ?_
  refine zv_get (pc := 20) (v := .ref (b + 36)) B (zp_hat (i := 35) (e1 := .inr (3, [.ref (b + 36), .int 0, .int 0])) (by decide) rfl) cl1 inX1 0 (by decide) wf_X1_11 rfl dX1_init_20 ?_
  refine zv_iload_n (pc := 23) B 0 rfl dX1_init_23 ?_
  refine zp_new (ci := 7) (fs := [.int 0, .int 0, .int 0, .int 0, .int 0, .null, .int 0, .int 0, .int 0, .int 0, .int 0, .int 0, .int 0]) B inX5 tyX5 tyX5_ok cl5 wc_X1_9 wt_X5 wn_X5 (zls (zls (zls (zls (zls (zls (zls (zls (zls (zls (zls (zls (zls zl0 rfl) rfl) rfl) rfl) rfl) rfl) rfl) rfl) rfl) rfl) rfl) rfl) rfl) (K1 := 42) rfl (Nat.le_of_ble_eq_true rfl) (Nat.le_of_ble_eq_true rfl) dX1_init_24 ?_
  refine zv_dup (pc := 27) B rfl dX1_init_27 ?_
  refine zv_callIN (pc := 28) (As := []) (rest := [.ref (b + 41), .int 2, .ref (b + 36)]) B (k_X5_init_41 l E b rfl) ⟨zcnB 0 2 1 B rfl wn_X5 wcode_X5_init (by decide +kernel) ⟨(Nat.le_of_ble_eq_true rfl), (Nat.le_of_ble_eq_true rfl)⟩, rfl, B.at wi_X5_init⟩ rfl (fun H h => h) rfl (Nat.le_of_ble_eq_true rfl) dX1_init_28 ⟨(Nat.le_of_ble_eq_true rfl), (Nat.le_of_ble_eq_true rfl)⟩ (fun v9 u9 hv9 => ?_)
  subst hv9
  refine zv_st (st' := [.ref (b + 41), .int 2, .ref (b + 36)]) rfl ?_
  refine zp_aast (i := 36) (jj := 2) (v := 41) B (by decide) rfl (by decide) rfl cl5 rfl (by decide) (by decide) dX1_init_31 ?_
  refine zv_iinc (pc := 32) (v := 3) (L' := [(1, .int 3), (0, .ref (b + 35))]) B 0 rfl rfl (by decide) rfl dX1_init_32 ?_
  refine zv_goto (pc := 35) (tgt := 14) B rfl dX1_init_35 ?_
  refine zv_iload_n (pc := 14) B 0 rfl dX1_init_14 ?_
  refine zv_iconst (pc := 15) (v := 4) B rfl dX1_init_15 ?_
  refine zv_icmp_ge (pc := 16) (tgt := 38) B dX1_init_16 rfl (fun h9 => absurd h9 (by decide)) (fun _ => ?_)
  refine zv_aload_n (pc := 19) B 1 rfl dX1_init_19 ?_
  refine zv_get (pc := 20) (v := .ref (b + 36)) B (zp_hat (i := 35) (e1 := .inr (3, [.ref (b + 36), .int 0, .int 0])) (by decide) rfl) cl1 inX1 0 (by decide) wf_X1_11 rfl dX1_init_20 ?_
  refine zv_iload_n (pc := 23) B 0 rfl dX1_init_23 ?_
  refine zp_new (ci := 7) (fs := [.int 0, .int 0, .int 0, .int 0, .int 0, .null, .int 0, .int 0, .int 0, .int 0, .int 0, .int 0, .int 0]) B inX5 tyX5 tyX5_ok cl5 wc_X1_9 wt_X5 wn_X5 (zls (zls (zls (zls (zls (zls (zls (zls (zls (zls (zls (zls (zls zl0 rfl) rfl) rfl) rfl) rfl) rfl) rfl) rfl) rfl) rfl) rfl) rfl) rfl) (K1 := 44) rfl (Nat.le_of_ble_eq_true rfl) (Nat.le_of_ble_eq_true rfl) dX1_init_24 ?_
  refine zv_dup (pc := 27) B rfl dX1_init_27 ?_
  refine zv_callIN (pc := 28) (As := []) (rest := [.ref (b + 43), .int 3, .ref (b + 36)]) B (k_X5_init_43 l E b rfl) ⟨zcnB 0 2 1 B rfl wn_X5 wcode_X5_init (by decide +kernel) ⟨(Nat.le_of_ble_eq_true rfl), (Nat.le_of_ble_eq_true rfl)⟩, rfl, B.at wi_X5_init⟩ rfl (fun H h => h) rfl (Nat.le_of_ble_eq_true rfl) dX1_init_28 ⟨(Nat.le_of_ble_eq_true rfl), (Nat.le_of_ble_eq_true rfl)⟩ (fun v9 u9 hv9 => ?_)
  subst hv9
  refine zv_st (st' := [.ref (b + 43), .int 3, .ref (b + 36)]) rfl ?_
  refine zp_aast (i := 36) (jj := 3) (v := 43) B (by decide) rfl (by decide) rfl cl5 rfl (by decide) (by decide) dX1_init_31 ?_
  refine zv_iinc (pc := 32) (v := 4) (L' := [(1, .int 4), (0, .ref (b + 35))]) B 0 rfl rfl (by decide) rfl dX1_init_32 ?_
  refine zv_goto (pc := 35) (tgt := 14) B rfl dX1_init_35 ?_
  refine zv_iload_n (pc := 14) B 0 rfl dX1_init_14 ?_
  refine zv_iconst (pc := 15) (v := 4) B rfl dX1_init_15 ?_
  refine zv_icmp_ge (pc := 16) (tgt := 38) B dX1_init_16 rfl (fun _ => ?_) (fun h9 => absurd (by decide) h9)
  exact zv_vret (pc := 38) B hr (fun H hP => ⟨(), rfl, hP.eq (zls (zls (zls (zls (zls (zls (zls (zls (zls (zls (zls (zls (zls (zls (zls (zls (zls (zls (zls (zls (zls (zls (zls (zls (zls (zls (zls (zls (zls (zls (zls (zls (zls (zls (zls (zls (zls (zls (zls (zls (zls (zls (zls (zls (zls zl0 rfl) rfl) rfl) rfl) rfl) rfl) rfl) rfl) rfl) rfl) rfl) rfl) rfl) rfl) rfl) rfl) rfl) rfl) rfl) rfl) rfl) rfl) rfl) rfl) rfl) rfl) rfl) rfl) rfl) rfl) rfl) rfl) rfl) rfl) rfl) rfl) (congrArg (fun f => (.inl (E.2 3, 4, .inr (.inr (.inr (.inr f)))) : va_E)) (zvo b 37))) rfl) rfl) rfl) rfl) rfl) rfl) rfl) rfl)⟩) (Nat.le_of_ble_eq_true rfl) (Nat.le_of_ble_eq_true rfl) dX1_init_38
set_option maxRecDepth 100000 in
set_option maxHeartbeats 1000000 in
theorem k_X1_init_71 (l : Launch) (E : zE) (b : Nat) {F : Nat → va_E} (hF71 : F 71 = .inr (3, [.null, .int 0, .int 0])) : zM l yX1_init (.code yX1_init cX1_init 2 none :: zAll) (zRm 3 9 72) E b [.ref (b + 71)] (zPic E b 72 F) (fun v9 (_ : Unit) => v9 = none) (fun _ => zPic E b 81 (zfill E b 71 81 F)) 9 72 := by
  refine zM_of "ToneGraph$Choir" (by decide) rfl rfl (Nat.le_of_ble_eq_true rfl) (L0 := [(0, .ref (b + 71))]) rfl ?_
  intro p e s m args below meth c9 B hr hname
  refine zv_aload_n (pc := 0) B 0 rfl dX1_init_0 ?_
  refine zp_objI B wm_X1_3 wi_Object_init wcode_Object_init dX1_init_1 (Nat.le_of_ble_eq_true rfl) (Nat.le_of_ble_eq_true rfl) ?_
  refine zv_aload_n (pc := 4) B 0 rfl dX1_init_4 ?_
  refine zv_iconst (pc := 5) (v := 4) B rfl dX1_init_5 ?_
  refine zp_newq (t0 := 3) (cA := E.2 3) (C := "ToneGraph$Voice") (N := 4) B wc_X1_9 B.2.2.2.2.2.1.2.2.2.2.1.1 rfl (by decide) (by decide) (Nat.le_of_ble_eq_true rfl) (K1 := 73) rfl (Nat.le_of_ble_eq_true rfl) (Nat.le_of_ble_eq_true rfl) dX1_init_6 ?_
  refine zp_putF (i := 71) (f := 0) (fs := [.null, .int 0, .int 0]) B hname (by decide) hF71 cl1 inX1 tyX1 tyX1_ok nmX1 (by decide) wf_X1_11 rfl rfl rfl rfl rfl (Nat.le_of_ble_eq_true rfl) dX1_init_9 ?_
  refine zv_iconst (pc := 12) (v := 0) B rfl dX1_init_12 ?_
  refine zv_istore_n (pc := 13) (L' := [(1, .int 0), (0, .ref (b + 71))]) B (by decide) rfl dX1_init_13 ?_
  refine zv_iload_n (pc := 14) B 0 rfl dX1_init_14 ?_
  refine zv_iconst (pc := 15) (v := 4) B rfl dX1_init_15 ?_
  refine zv_icmp_ge (pc := 16) (tgt := 38) B dX1_init_16 rfl (fun h9 => absurd h9 (by decide)) (fun _ => ?_)
  refine zv_aload_n (pc := 19) B 1 rfl dX1_init_19 ?_
  refine zv_get (pc := 20) (v := .ref (b + 72)) B (zp_hat (i := 71) (e1 := .inr (3, [.ref (b + 72), .int 0, .int 0])) (by decide) rfl) cl1 inX1 0 (by decide) wf_X1_11 rfl dX1_init_20 ?_
  refine zv_iload_n (pc := 23) B 0 rfl dX1_init_23 ?_
  refine zp_new (ci := 7) (fs := [.int 0, .int 0, .int 0, .int 0, .int 0, .null, .int 0, .int 0, .int 0, .int 0, .int 0, .int 0, .int 0]) B inX5 tyX5 tyX5_ok cl5 wc_X1_9 wt_X5 wn_X5 (zls (zls (zls (zls (zls (zls (zls (zls (zls (zls (zls (zls (zls zl0 rfl) rfl) rfl) rfl) rfl) rfl) rfl) rfl) rfl) rfl) rfl) rfl) rfl) (K1 := 74) rfl (Nat.le_of_ble_eq_true rfl) (Nat.le_of_ble_eq_true rfl) dX1_init_24 ?_
  refine zv_dup (pc := 27) B rfl dX1_init_27 ?_
  refine zv_callIN (pc := 28) (As := []) (rest := [.ref (b + 73), .int 0, .ref (b + 72)]) B (k_X5_init_73 l E b rfl) ⟨zcnB 0 2 1 B rfl wn_X5 wcode_X5_init (by decide +kernel) ⟨(Nat.le_of_ble_eq_true rfl), (Nat.le_of_ble_eq_true rfl)⟩, rfl, B.at wi_X5_init⟩ rfl (fun H h => h) rfl (Nat.le_of_ble_eq_true rfl) dX1_init_28 ⟨(Nat.le_of_ble_eq_true rfl), (Nat.le_of_ble_eq_true rfl)⟩ (fun v9 u9 hv9 => ?_)
  subst hv9
  refine zv_st (st' := [.ref (b + 73), .int 0, .ref (b + 72)]) rfl ?_
  refine zp_aast (i := 72) (jj := 0) (v := 73) B (by decide) rfl (by decide) rfl cl5 rfl (by decide) (by decide) dX1_init_31 ?_
  refine zv_iinc (pc := 32) (v := 1) (L' := [(1, .int 1), (0, .ref (b + 71))]) B 0 rfl rfl (by decide) rfl dX1_init_32 ?_
  refine zv_goto (pc := 35) (tgt := 14) B rfl dX1_init_35 ?_
  refine zv_iload_n (pc := 14) B 0 rfl dX1_init_14 ?_
  refine zv_iconst (pc := 15) (v := 4) B rfl dX1_init_15 ?_
  refine zv_icmp_ge (pc := 16) (tgt := 38) B dX1_init_16 rfl (fun h9 => absurd h9 (by decide)) (fun _ => ?_)
  refine zv_aload_n (pc := 19) B 1 rfl dX1_init_19 ?_
  refine zv_get (pc := 20) (v := .ref (b + 72)) B (zp_hat (i := 71) (e1 := .inr (3, [.ref (b + 72), .int 0, .int 0])) (by decide) rfl) cl1 inX1 0 (by decide) wf_X1_11 rfl dX1_init_20 ?_
  refine zv_iload_n (pc := 23) B 0 rfl dX1_init_23 ?_
  refine zp_new (ci := 7) (fs := [.int 0, .int 0, .int 0, .int 0, .int 0, .null, .int 0, .int 0, .int 0, .int 0, .int 0, .int 0, .int 0]) B inX5 tyX5 tyX5_ok cl5 wc_X1_9 wt_X5 wn_X5 (zls (zls (zls (zls (zls (zls (zls (zls (zls (zls (zls (zls (zls zl0 rfl) rfl) rfl) rfl) rfl) rfl) rfl) rfl) rfl) rfl) rfl) rfl) rfl) (K1 := 76) rfl (Nat.le_of_ble_eq_true rfl) (Nat.le_of_ble_eq_true rfl) dX1_init_24 ?_
  refine zv_dup (pc := 27) B rfl dX1_init_27 ?_
  refine zv_callIN (pc := 28) (As := []) (rest := [.ref (b + 75), .int 1, .ref (b + 72)]) B (k_X5_init_75 l E b rfl) ⟨zcnB 0 2 1 B rfl wn_X5 wcode_X5_init (by decide +kernel) ⟨(Nat.le_of_ble_eq_true rfl), (Nat.le_of_ble_eq_true rfl)⟩, rfl, B.at wi_X5_init⟩ rfl (fun H h => h) rfl (Nat.le_of_ble_eq_true rfl) dX1_init_28 ⟨(Nat.le_of_ble_eq_true rfl), (Nat.le_of_ble_eq_true rfl)⟩ (fun v9 u9 hv9 => ?_)
  subst hv9
  refine zv_st (st' := [.ref (b + 75), .int 1, .ref (b + 72)]) rfl ?_
  refine zp_aast (i := 72) (jj := 1) (v := 75) B (by decide) rfl (by decide) rfl cl5 rfl (by decide) (by decide) dX1_init_31 ?_
  refine zv_iinc (pc := 32) (v := 2) (L' := [(1, .int 2), (0, .ref (b + 71))]) B 0 rfl rfl (by decide) rfl dX1_init_32 ?_
  refine zv_goto (pc := 35) (tgt := 14) B rfl dX1_init_35 ?_
  refine zv_iload_n (pc := 14) B 0 rfl dX1_init_14 ?_
  refine zv_iconst (pc := 15) (v := 4) B rfl dX1_init_15 ?_
  refine zv_icmp_ge (pc := 16) (tgt := 38) B dX1_init_16 rfl (fun h9 => absurd h9 (by decide)) (fun _ => ?_)
  refine zv_aload_n (pc := 19) B 1 rfl dX1_init_19 ?_
  refine zv_get (pc := 20) (v := .ref (b + 72)) B (zp_hat (i := 71) (e1 := .inr (3, [.ref (b + 72), .int 0, .int 0])) (by decide) rfl) cl1 inX1 0 (by decide) wf_X1_11 rfl dX1_init_20 ?_
  refine zv_iload_n (pc := 23) B 0 rfl dX1_init_23 ?_
  refine zp_new (ci := 7) (fs := [.int 0, .int 0, .int 0, .int 0, .int 0, .null, .int 0, .int 0, .int 0, .int 0, .int 0, .int 0, .int 0]) B inX5 tyX5 tyX5_ok cl5 wc_X1_9 wt_X5 wn_X5 (zls (zls (zls (zls (zls (zls (zls (zls (zls (zls (zls (zls (zls zl0 rfl) rfl) rfl) rfl) rfl) rfl) rfl) rfl) rfl) rfl) rfl) rfl) rfl) (K1 := 78) rfl (Nat.le_of_ble_eq_true rfl) (Nat.le_of_ble_eq_true rfl) dX1_init_24 ?_
  refine zv_dup (pc := 27) B rfl dX1_init_27 ?_
  refine zv_callIN (pc := 28) (As := []) (rest := [.ref (b + 77), .int 2, .ref (b + 72)]) B (k_X5_init_77 l E b rfl) ⟨zcnB 0 2 1 B rfl wn_X5 wcode_X5_init (by decide +kernel) ⟨(Nat.le_of_ble_eq_true rfl), (Nat.le_of_ble_eq_true rfl)⟩, rfl, B.at wi_X5_init⟩ rfl (fun H h => h) rfl (Nat.le_of_ble_eq_true rfl) dX1_init_28 ⟨(Nat.le_of_ble_eq_true rfl), (Nat.le_of_ble_eq_true rfl)⟩ (fun v9 u9 hv9 => ?_)
  subst hv9
  refine zv_st (st' := [.ref (b + 77), .int 2, .ref (b + 72)]) rfl ?_
  refine zp_aast (i := 72) (jj := 2) (v := 77) B (by decide) rfl (by decide) rfl cl5 rfl (by decide) (by decide) dX1_init_31 ?_
  refine zv_iinc (pc := 32) (v := 3) (L' := [(1, .int 3), (0, .ref (b + 71))]) B 0 rfl rfl (by decide) rfl dX1_init_32 ?_
  refine zv_goto (pc := 35) (tgt := 14) B rfl dX1_init_35 ?_
  refine zv_iload_n (pc := 14) B 0 rfl dX1_init_14 ?_
  refine zv_iconst (pc := 15) (v := 4) B rfl dX1_init_15 ?_
  refine zv_icmp_ge (pc := 16) (tgt := 38) B dX1_init_16 rfl (fun h9 => absurd h9 (by decide)) (fun _ => ?_)
  refine zv_aload_n (pc := 19) B 1 rfl dX1_init_19 ?_
  refine zv_get (pc := 20) (v := .ref (b + 72)) B (zp_hat (i := 71) (e1 := .inr (3, [.ref (b + 72), .int 0, .int 0])) (by decide) rfl) cl1 inX1 0 (by decide) wf_X1_11 rfl dX1_init_20 ?_
  refine zv_iload_n (pc := 23) B 0 rfl dX1_init_23 ?_
  refine zp_new (ci := 7) (fs := [.int 0, .int 0, .int 0, .int 0, .int 0, .null, .int 0, .int 0, .int 0, .int 0, .int 0, .int 0, .int 0]) B inX5 tyX5 tyX5_ok cl5 wc_X1_9 wt_X5 wn_X5 (zls (zls (zls (zls (zls (zls (zls (zls (zls (zls (zls (zls (zls zl0 rfl) rfl) rfl) rfl) rfl) rfl) rfl) rfl) rfl) rfl) rfl) rfl) rfl) (K1 := 80) rfl (Nat.le_of_ble_eq_true rfl) (Nat.le_of_ble_eq_true rfl) dX1_init_24 ?_
  refine zv_dup (pc := 27) B rfl dX1_init_27 ?_
  refine zv_callIN (pc := 28) (As := []) (rest := [.ref (b + 79), .int 3, .ref (b + 72)]) B (k_X5_init_79 l E b rfl) ⟨zcnB 0 2 1 B rfl wn_X5 wcode_X5_init (by decide +kernel) ⟨(Nat.le_of_ble_eq_true rfl), (Nat.le_of_ble_eq_true rfl)⟩, rfl, B.at wi_X5_init⟩ rfl (fun H h => h) rfl (Nat.le_of_ble_eq_true rfl) dX1_init_28 ⟨(Nat.le_of_ble_eq_true rfl), (Nat.le_of_ble_eq_true rfl)⟩ (fun v9 u9 hv9 => ?_)
  subst hv9
  refine zv_st (st' := [.ref (b + 79), .int 3, .ref (b + 72)]) rfl ?_
  refine zp_aast (i := 72) (jj := 3) (v := 79) B (by decide) rfl (by decide) rfl cl5 rfl (by decide) (by decide) dX1_init_31 ?_
  refine zv_iinc (pc := 32) (v := 4) (L' := [(1, .int 4), (0, .ref (b + 71))]) B 0 rfl rfl (by decide) rfl dX1_init_32 ?_
  refine zv_goto (pc := 35) (tgt := 14) B rfl dX1_init_35 ?_
  refine zv_iload_n (pc := 14) B 0 rfl dX1_init_14 ?_
  refine zv_iconst (pc := 15) (v := 4) B rfl dX1_init_15 ?_
  refine zv_icmp_ge (pc := 16) (tgt := 38) B dX1_init_16 rfl (fun _ => ?_) (fun h9 => absurd (by decide) h9)
  exact zv_vret (pc := 38) B hr (fun H hP => ⟨(), rfl, hP.eq (zls (zls (zls (zls (zls (zls (zls (zls (zls (zls (zls (zls (zls (zls (zls (zls (zls (zls (zls (zls (zls (zls (zls (zls (zls (zls (zls (zls (zls (zls (zls (zls (zls (zls (zls (zls (zls (zls (zls (zls (zls (zls (zls (zls (zls (zls (zls (zls (zls (zls (zls (zls (zls (zls (zls (zls (zls (zls (zls (zls (zls (zls (zls (zls (zls (zls (zls (zls (zls (zls (zls (zls (zls (zls (zls (zls (zls (zls (zls (zls (zls zl0 rfl) rfl) rfl) rfl) rfl) rfl) rfl) rfl) rfl) rfl) rfl) rfl) rfl) rfl) rfl) rfl) rfl) rfl) rfl) rfl) rfl) rfl) rfl) rfl) rfl) rfl) rfl) rfl) rfl) rfl) rfl) rfl) rfl) rfl) rfl) rfl) rfl) rfl) rfl) rfl) rfl) rfl) rfl) rfl) rfl) rfl) rfl) rfl) rfl) rfl) rfl) rfl) rfl) rfl) rfl) rfl) rfl) rfl) rfl) rfl) rfl) rfl) rfl) rfl) rfl) rfl) rfl) rfl) rfl) rfl) rfl) rfl) (congrArg (fun f => (.inl (E.2 3, 4, .inr (.inr (.inr (.inr f)))) : va_E)) (zvo b 73))) rfl) rfl) rfl) rfl) rfl) rfl) rfl) rfl)⟩) (Nat.le_of_ble_eq_true rfl) (Nat.le_of_ble_eq_true rfl) dX1_init_38
set_option maxRecDepth 100000 in
set_option maxHeartbeats 1000000 in
theorem k_X4_init_34 (l : Launch) (E : zE) (b : Nat) {F : Nat → va_E} (hF34 : F 34 = .inr (6, [.null, .null, .null, .null, .null, .null, .null])) : zM l yX4_init (.code yX4_init cX4_init 2 none :: zAll) (zRm 4 35 1365) E b [.ref (b + 34), .ref (b + 1)] (zPic E b 35 F) (fun v9 (_ : Unit) => v9 = none) (fun _ => zPic E b 70 (zfill E b 34 70 F)) 35 1365 := by
  refine zM_of "ToneGraph$Track" (by decide) rfl rfl (Nat.le_of_ble_eq_true rfl) (L0 := [(0, .ref (b + 34)), (1, .ref (b + 1))]) rfl ?_
  intro p e s m args below meth c9 B hr hname
  refine zv_aload_n (pc := 0) B 0 rfl dX4_init_0 ?_
  refine zp_objI B wm_X4_3 wi_Object_init wcode_Object_init dX4_init_1 (Nat.le_of_ble_eq_true rfl) (Nat.le_of_ble_eq_true rfl) ?_
  refine zv_aload_n (pc := 4) B 0 rfl dX4_init_4 ?_
  refine zp_new (ci := 3) (fs := [.null, .int 0, .int 0]) B inX1 tyX1 tyX1_ok cl1 wc_X4_9 wt_X1 wn_X1 (zls (zls (zls zl0 rfl) rfl) rfl) (K1 := 36) rfl (Nat.le_of_ble_eq_true rfl) (Nat.le_of_ble_eq_true rfl) dX4_init_5 ?_
  refine zv_dup (pc := 8) B rfl dX4_init_8 ?_
  refine zv_callI (pc := 9) (As := []) (rest := [.ref (b + 35), .ref (b + 34)]) B (k_X1_init_35 l E b rfl) (zcwI 0 3 B wm_X4_11 wi_X1_init wn_X1 wcode_X1_init rfl (by decide +kernel) ⟨(Nat.le_of_ble_eq_true rfl), (Nat.le_of_ble_eq_true rfl)⟩) rfl (fun H h => h) rfl (Nat.le_of_ble_eq_true rfl) dX4_init_9 ⟨(Nat.le_of_ble_eq_true rfl), (Nat.le_of_ble_eq_true rfl)⟩ (fun v9 u9 hv9 => ?_)
  subst hv9
  refine zv_st (st' := [.ref (b + 35), .ref (b + 34)]) rfl ?_
  refine zp_putF (i := 34) (f := 1) (fs := [.null, .null, .null, .null, .null, .null, .null]) B hname (by decide) hF34 cl4 inX4 tyX4 tyX4_ok nmX4 (by decide) wf_X4_12 rfl rfl rfl rfl rfl (Nat.le_of_ble_eq_true rfl) dX4_init_12 ?_
  refine zv_aload_n (pc := 15) B 0 rfl dX4_init_15 ?_
  refine zv_bipush (pc := 16) (v := 10) B rfl dX4_init_16 ?_
  refine zv_bipush (pc := 18) (v := 64) B rfl dX4_init_18 ?_
  refine zp_mna (N := 10) (M := 64) B wc_X4_18 wa_int (by decide) (by decide) (by decide) (by decide) (Nat.le_of_ble_eq_true rfl) (Nat.le_of_ble_eq_true rfl) (K1 := 56) rfl (Nat.le_of_ble_eq_true rfl) (Nat.le_of_ble_eq_true rfl) dX4_init_20 ?_
  refine zp_putF (i := 34) (f := 2) (fs := [.null, .ref (b + 35), .null, .null, .null, .null, .null]) B hname (by decide) rfl cl4 inX4 tyX4 tyX4_ok nmX4 (by decide) wf_X4_20 rfl rfl rfl rfl rfl (Nat.le_of_ble_eq_true rfl) dX4_init_24 ?_
  refine zv_aload_n (pc := 27) B 0 rfl dX4_init_27 ?_
  refine zv_bipush (pc := 28) (v := 10) B rfl dX4_init_28 ?_
  refine zp_newa (t0 := 1) (cA := E.2 1) (a0 := (10, .inl zz0)) (atype := .int) (N := 10) B wa_int rfl (fun C h => by cases h) (by rw [vp_cell_i]; rfl) (by decide) (by decide) (Nat.le_of_ble_eq_true rfl) (K1 := 57) rfl (Nat.le_of_ble_eq_true rfl) (Nat.le_of_ble_eq_true rfl) dX4_init_30 ?_
  refine zp_putF (i := 34) (f := 3) (fs := [.null, .ref (b + 35), .ref (b + 45), .null, .null, .null, .null]) B hname (by decide) rfl cl4 inX4 tyX4 tyX4_ok nmX4 (by decide) wf_X4_23 rfl rfl rfl rfl rfl (Nat.le_of_ble_eq_true rfl) dX4_init_32 ?_
  refine zv_aload_n (pc := 35) B 0 rfl dX4_init_35 ?_
  refine zv_bipush (pc := 36) (v := 10) B rfl dX4_init_36 ?_
  refine zp_newa (t0 := 1) (cA := E.2 1) (a0 := (10, .inl zz0)) (atype := .int) (N := 10) B wa_int rfl (fun C h => by cases h) (by rw [vp_cell_i]; rfl) (by decide) (by decide) (Nat.le_of_ble_eq_true rfl) (K1 := 58) rfl (Nat.le_of_ble_eq_true rfl) (Nat.le_of_ble_eq_true rfl) dX4_init_38 ?_
  refine zp_putF (i := 34) (f := 4) (fs := [.null, .ref (b + 35), .ref (b + 45), .ref (b + 56), .null, .null, .null]) B hname (by decide) rfl cl4 inX4 tyX4 tyX4_ok nmX4 (by decide) wf_X4_27 rfl rfl rfl rfl rfl (Nat.le_of_ble_eq_true rfl) dX4_init_40 ?_
  refine zv_aload_n (pc := 43) B 0 rfl dX4_init_43 ?_
  refine zv_bipush (pc := 44) (v := 10) B rfl dX4_init_44 ?_
  refine zv_bipush (pc := 46) (v := 60) B rfl dX4_init_46 ?_
  refine zp_mna (N := 10) (M := 60) B wc_X4_18 wa_int (by decide) (by decide) (by decide) (by decide) (Nat.le_of_ble_eq_true rfl) (Nat.le_of_ble_eq_true rfl) (K1 := 69) rfl (Nat.le_of_ble_eq_true rfl) (Nat.le_of_ble_eq_true rfl) dX4_init_48 ?_
  refine zp_putF (i := 34) (f := 5) (fs := [.null, .ref (b + 35), .ref (b + 45), .ref (b + 56), .ref (b + 57), .null, .null]) B hname (by decide) rfl cl4 inX4 tyX4 tyX4_ok nmX4 (by decide) wf_X4_30 rfl rfl rfl rfl rfl (Nat.le_of_ble_eq_true rfl) dX4_init_52 ?_
  refine zv_aload_n (pc := 55) B 0 rfl dX4_init_55 ?_
  refine zv_bipush (pc := 56) (v := 10) B rfl dX4_init_56 ?_
  refine zp_newa (t0 := 1) (cA := E.2 1) (a0 := (10, .inl zz0)) (atype := .int) (N := 10) B wa_int rfl (fun C h => by cases h) (by rw [vp_cell_i]; rfl) (by decide) (by decide) (Nat.le_of_ble_eq_true rfl) (K1 := 70) rfl (Nat.le_of_ble_eq_true rfl) (Nat.le_of_ble_eq_true rfl) dX4_init_58 ?_
  refine zp_putF (i := 34) (f := 6) (fs := [.null, .ref (b + 35), .ref (b + 45), .ref (b + 56), .ref (b + 57), .ref (b + 58), .null]) B hname (by decide) rfl cl4 inX4 tyX4 tyX4_ok nmX4 (by decide) wf_X4_33 rfl rfl rfl rfl rfl (Nat.le_of_ble_eq_true rfl) dX4_init_60 ?_
  refine zv_aload_n (pc := 63) B 0 rfl dX4_init_63 ?_
  refine zv_aload_n (pc := 64) B 1 rfl dX4_init_64 ?_
  refine zp_putF (i := 34) (f := 0) (fs := [.null, .ref (b + 35), .ref (b + 45), .ref (b + 56), .ref (b + 57), .ref (b + 58), .ref (b + 69)]) B hname (by decide) rfl cl4 inX4 tyX4 tyX4_ok nmX4 (by decide) wf_X4_36 rfl rfl rfl rfl rfl (Nat.le_of_ble_eq_true rfl) dX4_init_65 ?_
  exact zv_vret (pc := 68) B hr (fun H hP => ⟨(), rfl, hP.eq (zls (zls (zls (zls (zls (zls (zls (zls (zls (zls (zls (zls (zls (zls (zls (zls (zls (zls (zls (zls (zls (zls (zls (zls (zls (zls (zls (zls (zls (zls (zls (zls (zls (zls (zls (zls (zls (zls (zls (zls (zls (zls (zls (zls (zls (zls (zls (zls (zls (zls (zls (zls (zls (zls (zls (zls (zls (zls (zls (zls (zls (zls (zls (zls (zls (zls (zls (zls (zls (zls zl0 rfl) rfl) rfl) rfl) rfl) rfl) rfl) rfl) rfl) rfl) rfl) rfl) rfl) rfl) rfl) rfl) rfl) rfl) rfl) rfl) rfl) rfl) rfl) rfl) rfl) rfl) rfl) rfl) rfl) rfl) rfl) rfl) rfl) rfl) rfl) rfl) rfl) rfl) rfl) rfl) rfl) rfl) rfl) rfl) rfl) rfl) rfl) rfl) rfl) rfl) rfl) rfl) rfl) rfl) rfl) rfl) rfl) rfl) rfl) rfl) rfl) rfl) rfl) rfl) rfl) rfl) rfl) rfl) rfl) rfl)⟩) (Nat.le_of_ble_eq_true rfl) (Nat.le_of_ble_eq_true rfl) dX4_init_68
set_option maxRecDepth 100000 in
set_option maxHeartbeats 1000000 in
theorem k_X4_init_70 (l : Launch) (E : zE) (b : Nat) {F : Nat → va_E} (hF70 : F 70 = .inr (6, [.null, .null, .null, .null, .null, .null, .null])) : zM l yX4_init (.code yX4_init cX4_init 2 none :: zAll) (zRm 4 35 1365) E b [.ref (b + 70), .ref (b + 1)] (zPic E b 71 F) (fun v9 (_ : Unit) => v9 = none) (fun _ => zPic E b 106 (zfill E b 70 106 F)) 35 1365 := by
  refine zM_of "ToneGraph$Track" (by decide) rfl rfl (Nat.le_of_ble_eq_true rfl) (L0 := [(0, .ref (b + 70)), (1, .ref (b + 1))]) rfl ?_
  intro p e s m args below meth c9 B hr hname
  refine zv_aload_n (pc := 0) B 0 rfl dX4_init_0 ?_
  refine zp_objI B wm_X4_3 wi_Object_init wcode_Object_init dX4_init_1 (Nat.le_of_ble_eq_true rfl) (Nat.le_of_ble_eq_true rfl) ?_
  refine zv_aload_n (pc := 4) B 0 rfl dX4_init_4 ?_
  refine zp_new (ci := 3) (fs := [.null, .int 0, .int 0]) B inX1 tyX1 tyX1_ok cl1 wc_X4_9 wt_X1 wn_X1 (zls (zls (zls zl0 rfl) rfl) rfl) (K1 := 72) rfl (Nat.le_of_ble_eq_true rfl) (Nat.le_of_ble_eq_true rfl) dX4_init_5 ?_
  refine zv_dup (pc := 8) B rfl dX4_init_8 ?_
  refine zv_callI (pc := 9) (As := []) (rest := [.ref (b + 71), .ref (b + 70)]) B (k_X1_init_71 l E b rfl) (zcwI 0 3 B wm_X4_11 wi_X1_init wn_X1 wcode_X1_init rfl (by decide +kernel) ⟨(Nat.le_of_ble_eq_true rfl), (Nat.le_of_ble_eq_true rfl)⟩) rfl (fun H h => h) rfl (Nat.le_of_ble_eq_true rfl) dX4_init_9 ⟨(Nat.le_of_ble_eq_true rfl), (Nat.le_of_ble_eq_true rfl)⟩ (fun v9 u9 hv9 => ?_)
  subst hv9
  refine zv_st (st' := [.ref (b + 71), .ref (b + 70)]) rfl ?_
  refine zp_putF (i := 70) (f := 1) (fs := [.null, .null, .null, .null, .null, .null, .null]) B hname (by decide) hF70 cl4 inX4 tyX4 tyX4_ok nmX4 (by decide) wf_X4_12 rfl rfl rfl rfl rfl (Nat.le_of_ble_eq_true rfl) dX4_init_12 ?_
  refine zv_aload_n (pc := 15) B 0 rfl dX4_init_15 ?_
  refine zv_bipush (pc := 16) (v := 10) B rfl dX4_init_16 ?_
  refine zv_bipush (pc := 18) (v := 64) B rfl dX4_init_18 ?_
  refine zp_mna (N := 10) (M := 64) B wc_X4_18 wa_int (by decide) (by decide) (by decide) (by decide) (Nat.le_of_ble_eq_true rfl) (Nat.le_of_ble_eq_true rfl) (K1 := 92) rfl (Nat.le_of_ble_eq_true rfl) (Nat.le_of_ble_eq_true rfl) dX4_init_20 ?_
  refine zp_putF (i := 70) (f := 2) (fs := [.null, .ref (b + 71), .null, .null, .null, .null, .null]) B hname (by decide) rfl cl4 inX4 tyX4 tyX4_ok nmX4 (by decide) wf_X4_20 rfl rfl rfl rfl rfl (Nat.le_of_ble_eq_true rfl) dX4_init_24 ?_
  refine zv_aload_n (pc := 27) B 0 rfl dX4_init_27 ?_
  refine zv_bipush (pc := 28) (v := 10) B rfl dX4_init_28 ?_
  refine zp_newa (t0 := 1) (cA := E.2 1) (a0 := (10, .inl zz0)) (atype := .int) (N := 10) B wa_int rfl (fun C h => by cases h) (by rw [vp_cell_i]; rfl) (by decide) (by decide) (Nat.le_of_ble_eq_true rfl) (K1 := 93) rfl (Nat.le_of_ble_eq_true rfl) (Nat.le_of_ble_eq_true rfl) dX4_init_30 ?_
  refine zp_putF (i := 70) (f := 3) (fs := [.null, .ref (b + 71), .ref (b + 81), .null, .null, .null, .null]) B hname (by decide) rfl cl4 inX4 tyX4 tyX4_ok nmX4 (by decide) wf_X4_23 rfl rfl rfl rfl rfl (Nat.le_of_ble_eq_true rfl) dX4_init_32 ?_
  refine zv_aload_n (pc := 35) B 0 rfl dX4_init_35 ?_
  refine zv_bipush (pc := 36) (v := 10) B rfl dX4_init_36 ?_
  refine zp_newa (t0 := 1) (cA := E.2 1) (a0 := (10, .inl zz0)) (atype := .int) (N := 10) B wa_int rfl (fun C h => by cases h) (by rw [vp_cell_i]; rfl) (by decide) (by decide) (Nat.le_of_ble_eq_true rfl) (K1 := 94) rfl (Nat.le_of_ble_eq_true rfl) (Nat.le_of_ble_eq_true rfl) dX4_init_38 ?_
  refine zp_putF (i := 70) (f := 4) (fs := [.null, .ref (b + 71), .ref (b + 81), .ref (b + 92), .null, .null, .null]) B hname (by decide) rfl cl4 inX4 tyX4 tyX4_ok nmX4 (by decide) wf_X4_27 rfl rfl rfl rfl rfl (Nat.le_of_ble_eq_true rfl) dX4_init_40 ?_
  refine zv_aload_n (pc := 43) B 0 rfl dX4_init_43 ?_
  refine zv_bipush (pc := 44) (v := 10) B rfl dX4_init_44 ?_
  refine zv_bipush (pc := 46) (v := 60) B rfl dX4_init_46 ?_
  refine zp_mna (N := 10) (M := 60) B wc_X4_18 wa_int (by decide) (by decide) (by decide) (by decide) (Nat.le_of_ble_eq_true rfl) (Nat.le_of_ble_eq_true rfl) (K1 := 105) rfl (Nat.le_of_ble_eq_true rfl) (Nat.le_of_ble_eq_true rfl) dX4_init_48 ?_
  refine zp_putF (i := 70) (f := 5) (fs := [.null, .ref (b + 71), .ref (b + 81), .ref (b + 92), .ref (b + 93), .null, .null]) B hname (by decide) rfl cl4 inX4 tyX4 tyX4_ok nmX4 (by decide) wf_X4_30 rfl rfl rfl rfl rfl (Nat.le_of_ble_eq_true rfl) dX4_init_52 ?_
  refine zv_aload_n (pc := 55) B 0 rfl dX4_init_55 ?_
  refine zv_bipush (pc := 56) (v := 10) B rfl dX4_init_56 ?_
  refine zp_newa (t0 := 1) (cA := E.2 1) (a0 := (10, .inl zz0)) (atype := .int) (N := 10) B wa_int rfl (fun C h => by cases h) (by rw [vp_cell_i]; rfl) (by decide) (by decide) (Nat.le_of_ble_eq_true rfl) (K1 := 106) rfl (Nat.le_of_ble_eq_true rfl) (Nat.le_of_ble_eq_true rfl) dX4_init_58 ?_
  refine zp_putF (i := 70) (f := 6) (fs := [.null, .ref (b + 71), .ref (b + 81), .ref (b + 92), .ref (b + 93), .ref (b + 94), .null]) B hname (by decide) rfl cl4 inX4 tyX4 tyX4_ok nmX4 (by decide) wf_X4_33 rfl rfl rfl rfl rfl (Nat.le_of_ble_eq_true rfl) dX4_init_60 ?_
  refine zv_aload_n (pc := 63) B 0 rfl dX4_init_63 ?_
  refine zv_aload_n (pc := 64) B 1 rfl dX4_init_64 ?_
  refine zp_putF (i := 70) (f := 0) (fs := [.null, .ref (b + 71), .ref (b + 81), .ref (b + 92), .ref (b + 93), .ref (b + 94), .ref (b + 105)]) B hname (by decide) rfl cl4 inX4 tyX4 tyX4_ok nmX4 (by decide) wf_X4_36 rfl rfl rfl rfl rfl (Nat.le_of_ble_eq_true rfl) dX4_init_65 ?_
  exact zv_vret (pc := 68) B hr (fun H hP => ⟨(), rfl, hP.eq (zls (zls (zls (zls (zls (zls (zls (zls (zls (zls (zls (zls (zls (zls (zls (zls (zls (zls (zls (zls (zls (zls (zls (zls (zls (zls (zls (zls (zls (zls (zls (zls (zls (zls (zls (zls (zls (zls (zls (zls (zls (zls (zls (zls (zls (zls (zls (zls (zls (zls (zls (zls (zls (zls (zls (zls (zls (zls (zls (zls (zls (zls (zls (zls (zls (zls (zls (zls (zls (zls (zls (zls (zls (zls (zls (zls (zls (zls (zls (zls (zls (zls (zls (zls (zls (zls (zls (zls (zls (zls (zls (zls (zls (zls (zls (zls (zls (zls (zls (zls (zls (zls (zls (zls (zls (zls zl0 rfl) rfl) rfl) rfl) rfl) rfl) rfl) rfl) rfl) rfl) rfl) rfl) rfl) rfl) rfl) rfl) rfl) rfl) rfl) rfl) rfl) rfl) rfl) rfl) rfl) rfl) rfl) rfl) rfl) rfl) rfl) rfl) rfl) rfl) rfl) rfl) rfl) rfl) rfl) rfl) rfl) rfl) rfl) rfl) rfl) rfl) rfl) rfl) rfl) rfl) rfl) rfl) rfl) rfl) rfl) rfl) rfl) rfl) rfl) rfl) rfl) rfl) rfl) rfl) rfl) rfl) rfl) rfl) rfl) rfl) rfl) rfl) rfl) rfl) rfl) rfl) rfl) rfl) rfl) rfl) rfl) rfl) rfl) rfl) rfl) rfl) rfl) rfl) rfl) rfl) rfl) rfl) rfl) rfl) rfl) rfl) rfl) rfl) rfl) rfl) rfl) rfl) rfl) rfl) rfl) rfl)⟩) (Nat.le_of_ble_eq_true rfl) (Nat.le_of_ble_eq_true rfl) dX4_init_68
set_option maxRecDepth 100000 in
set_option maxHeartbeats 1000000 in
theorem k_X6_init_0 (l : Launch) (E : zE) (b : Nat) {F : Nat → va_E} (hF0 : F 0 = .inr (8, [.null, .null, .null, .null, .null, .null, .int 0, .null])) : zM l yX6_init (.code yX6_init cX6_init 1 none :: zAll) (zRm 5 110 3159) E b [.ref (b + 0)] (zPic E b 1 F) (fun v9 (_ : Unit) => v9 = none) (fun _ => zPic E b 111 (zfill E b 0 111 F)) 110 3159 := by
  refine zM_of "ToneGraph" (by decide) rfl rfl (Nat.le_of_ble_eq_true rfl) (L0 := [(0, .ref (b + 0))]) rfl ?_
  intro p e s m args below meth c9 B hr hname
  refine zv_aload_n (pc := 0) B 0 rfl dX6_init_0 ?_
  refine zp_objI B wm_X6_1 wi_Object_init wcode_Object_init dX6_init_1 (Nat.le_of_ble_eq_true rfl) (Nat.le_of_ble_eq_true rfl) ?_
  refine zv_aload_n (pc := 4) B 0 rfl dX6_init_4 ?_
  refine zp_new (ci := 2) (fs := [.int 0, .int 0, .null, .null, .null, .null, .null, .null, .null, .null, .null, .null, .null, .null]) B inX0 tyX0 tyX0_ok cl0 wc_X6_7 wt_X0 wn_X0 (zls (zls (zls (zls (zls (zls (zls (zls (zls (zls (zls (zls (zls (zls zl0 rfl) rfl) rfl) rfl) rfl) rfl) rfl) rfl) rfl) rfl) rfl) rfl) rfl) rfl) (K1 := 2) rfl (Nat.le_of_ble_eq_true rfl) (Nat.le_of_ble_eq_true rfl) dX6_init_5 ?_
  refine zv_dup (pc := 8) B rfl dX6_init_8 ?_
  refine zv_callI (pc := 9) (As := []) (rest := [.ref (b + 1), .ref (b + 0)]) B (k_X0_init_1 l E b rfl) (zcwI 0 1 B wm_X6_9 wi_X0_init wn_X0 wcode_X0_init rfl (by decide +kernel) ⟨(Nat.le_of_ble_eq_true rfl), (Nat.le_of_ble_eq_true rfl)⟩) rfl (fun H h => h) rfl (Nat.le_of_ble_eq_true rfl) dX6_init_9 ⟨(Nat.le_of_ble_eq_true rfl), (Nat.le_of_ble_eq_true rfl)⟩ (fun v9 u9 hv9 => ?_)
  subst hv9
  refine zv_st (st' := [.ref (b + 1), .ref (b + 0)]) rfl ?_
  refine zp_putF (i := 0) (f := 0) (fs := [.null, .null, .null, .null, .null, .null, .int 0, .null]) B hname (by decide) hF0 cl6 inX6 tyX6 tyX6_ok nmX6 (by decide) wf_X6_10 rfl rfl rfl rfl rfl (Nat.le_of_ble_eq_true rfl) dX6_init_12 ?_
  refine zv_aload_n (pc := 15) B 0 rfl dX6_init_15 ?_
  refine zp_new (ci := 6) (fs := [.null, .null, .null, .null, .null, .null, .null]) B inX4 tyX4 tyX4_ok cl4 wc_X6_16 wt_X4 wn_X4 (zls (zls (zls (zls (zls (zls (zls zl0 rfl) rfl) rfl) rfl) rfl) rfl) rfl) (K1 := 35) rfl (Nat.le_of_ble_eq_true rfl) (Nat.le_of_ble_eq_true rfl) dX6_init_16 ?_
  refine zv_dup (pc := 19) B rfl dX6_init_19 ?_
  refine zv_aload_n (pc := 20) B 0 rfl dX6_init_20 ?_
  refine zv_get (pc := 21) (v := .ref (b + 1)) B (zp_hat (i := 0) (e1 := .inr (8, [.ref (b + 1), .null, .null, .null, .null, .null, .int 0, .null])) (by decide) rfl) cl6 inX6 0 (by decide) wf_X6_10 rfl dX6_init_21 ?_
  refine zv_callI (pc := 24) (As := [.ref (b + 1)]) (rest := [.ref (b + 34), .ref (b + 0)]) B (k_X4_init_34 l E b rfl) (zcwI 1 4 B wm_X6_18 wi_X4_init wn_X4 wcode_X4_init rfl (by decide +kernel) ⟨(Nat.le_of_ble_eq_true rfl), (Nat.le_of_ble_eq_true rfl)⟩) rfl (fun H h => h) rfl (Nat.le_of_ble_eq_true rfl) dX6_init_24 ⟨(Nat.le_of_ble_eq_true rfl), (Nat.le_of_ble_eq_true rfl)⟩ (fun v9 u9 hv9 => ?_)
  subst hv9
  refine zv_st (st' := [.ref (b + 34), .ref (b + 0)]) rfl ?_
  refine zp_putF (i := 0) (f := 1) (fs := [.ref (b + 1), .null, .null, .null, .null, .null, .int 0, .null]) B hname (by decide) rfl cl6 inX6 tyX6 tyX6_ok nmX6 (by decide) wf_X6_21 rfl rfl rfl rfl rfl (Nat.le_of_ble_eq_true rfl) dX6_init_27 ?_
  refine zv_aload_n (pc := 30) B 0 rfl dX6_init_30 ?_
  refine zp_new (ci := 6) (fs := [.null, .null, .null, .null, .null, .null, .null]) B inX4 tyX4 tyX4_ok cl4 wc_X6_16 wt_X4 wn_X4 (zls (zls (zls (zls (zls (zls (zls zl0 rfl) rfl) rfl) rfl) rfl) rfl) rfl) (K1 := 71) rfl (Nat.le_of_ble_eq_true rfl) (Nat.le_of_ble_eq_true rfl) dX6_init_31 ?_
  refine zv_dup (pc := 34) B rfl dX6_init_34 ?_
  refine zv_aload_n (pc := 35) B 0 rfl dX6_init_35 ?_
  refine zv_get (pc := 36) (v := .ref (b + 1)) B (zp_hat (i := 0) (e1 := .inr (8, [.ref (b + 1), .ref (b + 34), .null, .null, .null, .null, .int 0, .null])) (by decide) rfl) cl6 inX6 0 (by decide) wf_X6_10 rfl dX6_init_36 ?_
  refine zv_callI (pc := 39) (As := [.ref (b + 1)]) (rest := [.ref (b + 70), .ref (b + 0)]) B (k_X4_init_70 l E b rfl) (zcwI 1 4 B wm_X6_18 wi_X4_init wn_X4 wcode_X4_init rfl (by decide +kernel) ⟨(Nat.le_of_ble_eq_true rfl), (Nat.le_of_ble_eq_true rfl)⟩) rfl (fun H h => h) rfl (Nat.le_of_ble_eq_true rfl) dX6_init_39 ⟨(Nat.le_of_ble_eq_true rfl), (Nat.le_of_ble_eq_true rfl)⟩ (fun v9 u9 hv9 => ?_)
  subst hv9
  refine zv_st (st' := [.ref (b + 70), .ref (b + 0)]) rfl ?_
  refine zp_putF (i := 0) (f := 2) (fs := [.ref (b + 1), .ref (b + 34), .null, .null, .null, .null, .int 0, .null]) B hname (by decide) rfl cl6 inX6 tyX6 tyX6_ok nmX6 (by decide) wf_X6_25 rfl rfl rfl rfl rfl (Nat.le_of_ble_eq_true rfl) dX6_init_42 ?_
  refine zv_aload_n (pc := 45) B 0 rfl dX6_init_45 ?_
  refine zp_new (ci := 5) (fs := [.null, .int 0, .int 0, .long 0, .int 0]) B inX3 tyX3 tyX3_ok cl3 wc_X6_28 wt_X3 wn_X3 (zls (zls (zls (zls (zls zl0 rfl) rfl) rfl) rfl) rfl) (K1 := 107) rfl (Nat.le_of_ble_eq_true rfl) (Nat.le_of_ble_eq_true rfl) dX6_init_46 ?_
  refine zv_dup (pc := 49) B rfl dX6_init_49 ?_
  refine zv_callIN (pc := 50) (As := []) (rest := [.ref (b + 106), .ref (b + 0)]) B (k_X3_init_106 l E b rfl) ⟨zcnB 0 1 0 B rfl wn_X3 wcode_X3_init (by decide +kernel) ⟨(Nat.le_of_ble_eq_true rfl), (Nat.le_of_ble_eq_true rfl)⟩, rfl, B.at wi_X3_init⟩ rfl (fun H h => h) rfl (Nat.le_of_ble_eq_true rfl) dX6_init_50 ⟨(Nat.le_of_ble_eq_true rfl), (Nat.le_of_ble_eq_true rfl)⟩ (fun v9 u9 hv9 => ?_)
  subst hv9
  refine zv_st (st' := [.ref (b + 106), .ref (b + 0)]) rfl ?_
  refine zp_putF (i := 0) (f := 3) (fs := [.ref (b + 1), .ref (b + 34), .ref (b + 70), .null, .null, .null, .int 0, .null]) B hname (by decide) rfl cl6 inX6 tyX6 tyX6_ok nmX6 (by decide) wf_X6_31 rfl rfl rfl rfl rfl (Nat.le_of_ble_eq_true rfl) dX6_init_53 ?_
  refine zv_aload_n (pc := 56) B 0 rfl dX6_init_56 ?_
  refine zv_bipush (pc := 57) (v := 64) B rfl dX6_init_57 ?_
  refine zp_newa (t0 := 1) (cA := E.2 1) (a0 := (64, .inl zz0)) (atype := .int) (N := 64) B wa_int rfl (fun C h => by cases h) (by rw [vp_cell_i]; rfl) (by decide) (by decide) (Nat.le_of_ble_eq_true rfl) (K1 := 109) rfl (Nat.le_of_ble_eq_true rfl) (Nat.le_of_ble_eq_true rfl) dX6_init_59 ?_
  refine zp_putF (i := 0) (f := 4) (fs := [.ref (b + 1), .ref (b + 34), .ref (b + 70), .ref (b + 106), .null, .null, .int 0, .null]) B hname (by decide) rfl cl6 inX6 tyX6 tyX6_ok nmX6 (by decide) wf_X6_35 rfl rfl rfl rfl rfl (Nat.le_of_ble_eq_true rfl) dX6_init_61 ?_
  refine zv_aload_n (pc := 64) B 0 rfl dX6_init_64 ?_
  refine zv_bipush (pc := 65) (v := 64) B rfl dX6_init_65 ?_
  refine zp_newa (t0 := 1) (cA := E.2 1) (a0 := (64, .inl zz0)) (atype := .int) (N := 64) B wa_int rfl (fun C h => by cases h) (by rw [vp_cell_i]; rfl) (by decide) (by decide) (Nat.le_of_ble_eq_true rfl) (K1 := 110) rfl (Nat.le_of_ble_eq_true rfl) (Nat.le_of_ble_eq_true rfl) dX6_init_67 ?_
  refine zp_putF (i := 0) (f := 5) (fs := [.ref (b + 1), .ref (b + 34), .ref (b + 70), .ref (b + 106), .ref (b + 108), .null, .int 0, .null]) B hname (by decide) rfl cl6 inX6 tyX6 tyX6_ok nmX6 (by decide) wf_X6_39 rfl rfl rfl rfl rfl (Nat.le_of_ble_eq_true rfl) dX6_init_69 ?_
  refine zv_aload_n (pc := 72) B 0 rfl dX6_init_72 ?_
  refine zv_bipush (pc := 73) (v := 115) B rfl dX6_init_73 ?_
  refine zp_put (i := 0) (f := 6) (fs := [.ref (b + 1), .ref (b + 34), .ref (b + 70), .ref (b + 106), .ref (b + 108), .ref (b + 109), .int 0, .null]) B (by decide) rfl cl6 inX6 tyX6 tyX6_ok nmX6 (by decide) wf_X6_42 rfl rfl rfl rfl (Nat.le_of_ble_eq_true rfl) dX6_init_75 ?_
  refine zv_aload_n (pc := 78) B 0 rfl dX6_init_78 ?_
  refine zp_new (ci := 4) (fs := [.int 0, .int 0, .int 0, .int 0]) B inX2 tyX2 tyX2_ok cl2 wc_X6_46 wt_X2 wn_X2 (zls (zls (zls (zls zl0 rfl) rfl) rfl) rfl) (K1 := 111) rfl (Nat.le_of_ble_eq_true rfl) (Nat.le_of_ble_eq_true rfl) dX6_init_79 ?_
  refine zv_dup (pc := 82) B rfl dX6_init_82 ?_
  refine zv_iconst (pc := 83) (v := 0) B rfl dX6_init_83 ?_
  refine zv_iconst (pc := 84) (v := 0) B rfl dX6_init_84 ?_
  refine zv_sipush (pc := 85) (v := 1000) B rfl dX6_init_85 ?_
  refine zv_iconst (pc := 88) (v := 0) B rfl dX6_init_88 ?_
  refine zv_callI (pc := 89) (As := [.int 0, .int 0, .int 1000, .int 0]) (rest := [.ref (b + 110), .ref (b + 0)]) B (k_X2_init l E b (K := 111) (o := 110) (by decide) rfl 0 0 1000 0) (zcwI 4 1 B wm_X6_48 wi_X2_init wn_X2 wcode_X2_init rfl (by decide +kernel) ⟨(Nat.le_of_ble_eq_true rfl), (Nat.le_of_ble_eq_true rfl)⟩) rfl (fun H h => h) rfl (Nat.le_of_ble_eq_true rfl) dX6_init_89 ⟨(Nat.le_of_ble_eq_true rfl), (Nat.le_of_ble_eq_true rfl)⟩ (fun v9 u9 hv9 => ?_)
  subst hv9
  refine zv_st (st' := [.ref (b + 110), .ref (b + 0)]) rfl ?_
  refine zp_put (i := 0) (f := 7) (fs := [.ref (b + 1), .ref (b + 34), .ref (b + 70), .ref (b + 106), .ref (b + 108), .ref (b + 109), .int 115, .null]) B (by decide) rfl cl6 inX6 tyX6 tyX6_ok nmX6 (by decide) wf_X6_51 rfl rfl rfl rfl (Nat.le_of_ble_eq_true rfl) dX6_init_92 ?_
  exact zv_vret (pc := 95) B hr (fun H hP => ⟨(), rfl, hP.eq (zls (zls (zls (zls (zls (zls (zls (zls (zls (zls (zls (zls (zls (zls (zls (zls (zls (zls (zls (zls (zls (zls (zls (zls (zls (zls (zls (zls (zls (zls (zls (zls (zls (zls (zls (zls (zls (zls (zls (zls (zls (zls (zls (zls (zls (zls (zls (zls (zls (zls (zls (zls (zls (zls (zls (zls (zls (zls (zls (zls (zls (zls (zls (zls (zls (zls (zls (zls (zls (zls (zls (zls (zls (zls (zls (zls (zls (zls (zls (zls (zls (zls (zls (zls (zls (zls (zls (zls (zls (zls (zls (zls (zls (zls (zls (zls (zls (zls (zls (zls (zls (zls (zls (zls (zls (zls (zls (zls (zls (zls (zls zl0 rfl) rfl) rfl) rfl) rfl) rfl) rfl) rfl) rfl) rfl) rfl) rfl) rfl) rfl) rfl) rfl) rfl) rfl) rfl) rfl) rfl) rfl) rfl) rfl) rfl) rfl) rfl) rfl) rfl) rfl) rfl) rfl) rfl) rfl) rfl) rfl) rfl) rfl) rfl) rfl) rfl) rfl) rfl) rfl) rfl) rfl) rfl) rfl) rfl) rfl) rfl) rfl) rfl) rfl) rfl) rfl) rfl) rfl) rfl) rfl) rfl) rfl) rfl) rfl) rfl) rfl) rfl) rfl) rfl) rfl) rfl) rfl) rfl) rfl) rfl) rfl) rfl) rfl) rfl) rfl) rfl) rfl) rfl) rfl) rfl) rfl) rfl) rfl) rfl) rfl) rfl) rfl) rfl) rfl) rfl) rfl) rfl) rfl) rfl) rfl) rfl) rfl) rfl) rfl) rfl) rfl) rfl) rfl) rfl) rfl) rfl)⟩) (Nat.le_of_ble_eq_true rfl) (Nat.le_of_ble_eq_true rfl) dX6_init_95