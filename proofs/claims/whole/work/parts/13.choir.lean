def m_X6_stepOfKey (k : Nat) : Int32 := (zstp (k % 12)) <<< ((nI (k / 12)) &&& 31)
set_option maxRecDepth 100000 in
set_option maxHeartbeats 4000000 in
theorem k_X6_stepOfKey (l : Launch) (E : zE) (b : Nat) {P : Heap → Prop} {k : Nat} (hk : k < 60) : zM l yX6_stepOfKey (.code yX6_stepOfKey cX6_stepOfKey 1 (some .int) :: zAll) (zRm 0 0 0) E b [.int (nI k)] (P) (fun v9 (_ : Unit) => v9 = some (.int (m_X6_stepOfKey k))) (fun _ => P) 0 0 := by
  refine zM_of "ToneGraph" (by decide) rfl rfl (Nat.le_of_ble_eq_true rfl) (L0 := [(0, .int (nI k))]) rfl ?_
  intro p e s m args below meth c9 B hr hname
  refine zv_iload_n (pc := 0) B 0 rfl dX6_stepOfKey_0 ?_
  refine zv_if_lt (pc := 1) (tgt := 10) B dX6_stepOfKey_1 rfl (fun h9 => absurd h9 (fun q9 => absurd ((z_lt (a := k) (b := 0) rfl rfl (by omega) (by omega)).mp q9) (by omega))) (fun _ => ?_)
  refine zv_iload_n (pc := 4) B 0 rfl dX6_stepOfKey_4 ?_
  refine zv_bipush (pc := 5) (v := 60) B rfl dX6_stepOfKey_5 ?_
  refine zv_icmp_lt (pc := 7) (tgt := 12) B dX6_stepOfKey_7 rfl (fun _ => ?_) (fun h9 => absurd ((z_lt (a := k) (b := 60) rfl rfl (by omega) (by omega)).mpr (by omega)) h9)
  refine zv_gets (pc := 12) B wf_X6_299 dX6_stepOfKey_12 (fun t9 ht9 => ?_)
  refine zv_iload_n (pc := 15) B 0 rfl dX6_stepOfKey_15 ?_
  refine zv_bipush (pc := 16) (v := 12) B rfl dX6_stepOfKey_16 ?_
  refine zv_irem (pc := 18) B (by decide) dX6_stepOfKey_18 ?_
  refine zv_topi (y := nI (k % 12)) (pk_rem (by omega) (by decide) (by decide)) ?_
  refine zv_ti (pc := 19) (jj := (k % 12)) B ht9 rfl (by omega) dX6_stepOfKey_19 ?_
  refine zv_iload_n (pc := 20) B 0 rfl dX6_stepOfKey_20 ?_
  refine zv_bipush (pc := 21) (v := 12) B rfl dX6_stepOfKey_21 ?_
  refine zv_idiv (pc := 23) B (by decide) dX6_stepOfKey_23 ?_
  refine zv_topi (y := nI (k / 12)) (pk_div (by omega) (by decide) (by decide)) ?_
  refine zv_ishl (pc := 24) B dX6_stepOfKey_24 ?_
  have hE3 : (zstp (k % 12)) <<< ((nI (k / 12)) &&& 31) = m_X6_stepOfKey k := (by unfold m_X6_stepOfKey; rfl)
  exact zv_iret (pc := 25) B ((zstp (k % 12)) <<< ((nI (k / 12)) &&& 31)) hr (fun H hP => ⟨(), (congrArg (fun z => some (Value.int z)) hE3), hP⟩) (Nat.le_of_ble_eq_true rfl) (Nat.le_of_ble_eq_true rfl) dX6_stepOfKey_25

def m_X5_start (c : Nat → Nat → Int32) (en : Nat → Nat) (ea : Nat → Nat → Int32) (o v : Nat) (k : Nat) (x y z : Int32) (q : Nat) (f : Nat → Int32) : (Nat → Nat → Int32) × (Nat → Nat) × (Nat → Nat → Int32) := (zup (zup (zup (zup (zup (zup (zup (zup (zup c (o + 3 + 2 * v) 0 1) (o + 3 + 2 * v) 1 0) (o + 3 + 2 * v) 2 (nI k)) (o + 3 + 2 * v) 3 x) (o + 3 + 2 * v) 4 y) (o + 3 + 2 * v) 6 (m_X6_stepOfKey k)) (o + 3 + 2 * v) 7 0) (o + 3 + 2 * v) 8 z) (o + 3 + 2 * v) 10 0, va_up en (o + 3 + 2 * v) q, va_up ea (o + 3 + 2 * v) f)
set_option maxRecDepth 100000 in
set_option maxHeartbeats 4000000 in
theorem k_X5_start (l : Launch) (E : zE) (b : Nat) (c : Nat → Nat → Int32) (w : Nat → Int64) (en : Nat → Nat) (ea : Nat → Nat → Int32) {o v : Nat} (ho : zTk o) (hv : v < 4) {k : Nat} (hk : k < 60) (x y z : Int32) (hy : zn y ≤ 65535) (q : Nat) (f : Nat → Int32) (hq : ∀ c H, zH E b c w en ea H → zEv E b q f H) (hg : zG c) : zM l yX5_start (.code yX5_start cX5_start 6 none :: zAll) (zRm 1 0 0) E b [.ref (b + (o + 3 + 2 * v)), .int (nI k), .int x, .int y, .ref q, .int z] (zH E b c w en ea) (fun v9 (_ : Unit) => v9 = none ∧ zfr (o + 3 + 2 * v) (o + 3 + 2 * v + 1) (o + 3 + 2 * v) (o + 3 + 2 * v) c (m_X5_start c en ea o v k x y z q f).1 ∧ zG (m_X5_start c en ea o v k x y z q f).1) (fun _ => zH E b ((m_X5_start c en ea o v k x y z q f).1) w ((m_X5_start c en ea o v k x y z q f).2.1) ((m_X5_start c en ea o v k x y z q f).2.2)) 0 0 := by
  refine zM_of "ToneGraph$Voice" (by decide) rfl rfl (Nat.le_of_ble_eq_true rfl) (L0 := [(0, .ref (b + (o + 3 + 2 * v))), (1, .int (nI k)), (2, .int x), (3, .int y), (4, .ref q), (5, .int z)]) rfl ?_
  intro p e s m args below meth c9 B hr hname
  have ho9 : o = 34 ∨ o = 70 := ho
  refine zv_aload_n (pc := 0) B 0 rfl dX5_start_0 ?_
  refine zv_iconst (pc := 1) (v := 1) B rfl dX5_start_1 ?_
  refine zs_put9 (pc := 2) (f := 0) (F := fun x9 => [.int (x9 0), .int (x9 1), .int (x9 2), .int (x9 3), .int (x9 4), .ref (en (o + 3 + 2 * v)), .int (x9 6), .int (x9 7), .int (x9 8), .int (x9 9), .int (x9 10), .int (x9 11), .int (x9 12)]) B zid (by have h9 : v < 4 := hv; have := zTk.lt ho (k := 3 + 2 * v) (by omega); omega) (zt_vc_e ho hv) (fun x => zt_vc ho hv x _ _) cl5 inX5 tyX5 tyX5_ok nmX5 (by decide) wf_X5_24 rfl rfl rfl rfl (Nat.le_of_ble_eq_true rfl) (fun _ _ => rfl) dX5_start_2 ?_
  refine zv_aload_n (pc := 5) B 0 rfl dX5_start_5 ?_
  refine zv_iconst (pc := 6) (v := 0) B rfl dX5_start_6 ?_
  refine zs_put9 (pc := 7) (f := 1) (F := fun x9 => [.int (x9 0), .int (x9 1), .int (x9 2), .int (x9 3), .int (x9 4), .ref (en (o + 3 + 2 * v)), .int (x9 6), .int (x9 7), .int (x9 8), .int (x9 9), .int (x9 10), .int (x9 11), .int (x9 12)]) B zid (by have h9 : v < 4 := hv; have := zTk.lt ho (k := 3 + 2 * v) (by omega); omega) (zt_vc_e ho hv) (fun x => zt_vc ho hv x _ _) cl5 inX5 tyX5 tyX5_ok nmX5 (by decide) wf_X5_28 rfl rfl rfl rfl (Nat.le_of_ble_eq_true rfl) (fun _ _ => rfl) dX5_start_7 ?_
  refine zv_aload_n (pc := 10) B 0 rfl dX5_start_10 ?_
  refine zv_iload_n (pc := 11) B 1 rfl dX5_start_11 ?_
  refine zs_put9 (pc := 12) (f := 2) (F := fun x9 => [.int (x9 0), .int (x9 1), .int (x9 2), .int (x9 3), .int (x9 4), .ref (en (o + 3 + 2 * v)), .int (x9 6), .int (x9 7), .int (x9 8), .int (x9 9), .int (x9 10), .int (x9 11), .int (x9 12)]) B zid (by have h9 : v < 4 := hv; have := zTk.lt ho (k := 3 + 2 * v) (by omega); omega) (zt_vc_e ho hv) (fun x => zt_vc ho hv x _ _) cl5 inX5 tyX5 tyX5_ok nmX5 (by decide) wf_X5_31 rfl rfl rfl rfl (Nat.le_of_ble_eq_true rfl) (fun _ _ => rfl) dX5_start_12 ?_
  refine zv_aload_n (pc := 15) B 0 rfl dX5_start_15 ?_
  refine zv_iload_n (pc := 16) B 2 rfl dX5_start_16 ?_
  refine zs_put9 (pc := 17) (f := 3) (F := fun x9 => [.int (x9 0), .int (x9 1), .int (x9 2), .int (x9 3), .int (x9 4), .ref (en (o + 3 + 2 * v)), .int (x9 6), .int (x9 7), .int (x9 8), .int (x9 9), .int (x9 10), .int (x9 11), .int (x9 12)]) B zid (by have h9 : v < 4 := hv; have := zTk.lt ho (k := 3 + 2 * v) (by omega); omega) (zt_vc_e ho hv) (fun x => zt_vc ho hv x _ _) cl5 inX5 tyX5 tyX5_ok nmX5 (by decide) wf_X5_35 rfl rfl rfl rfl (Nat.le_of_ble_eq_true rfl) (fun _ _ => rfl) dX5_start_17 ?_
  refine zv_aload_n (pc := 20) B 0 rfl dX5_start_20 ?_
  refine zv_iload_n (pc := 21) B 3 rfl dX5_start_21 ?_
  refine zs_put9 (pc := 22) (f := 4) (F := fun x9 => [.int (x9 0), .int (x9 1), .int (x9 2), .int (x9 3), .int (x9 4), .ref (en (o + 3 + 2 * v)), .int (x9 6), .int (x9 7), .int (x9 8), .int (x9 9), .int (x9 10), .int (x9 11), .int (x9 12)]) B zid (by have h9 : v < 4 := hv; have := zTk.lt ho (k := 3 + 2 * v) (by omega); omega) (zt_vc_e ho hv) (fun x => zt_vc ho hv x _ _) cl5 inX5 tyX5 tyX5_ok nmX5 (by decide) wf_X5_9 rfl rfl (znar_c hy) (zfit_c hy) (Nat.le_of_ble_eq_true rfl) (fun _ _ => rfl) dX5_start_22 ?_
  refine zv_aload_n (pc := 25) B 0 rfl dX5_start_25 ?_
  refine zv_aload (pc := 26) B 4 rfl dX5_start_26 ?_
  refine zs_pute (pc := 28) (f := 5) (F := fun e1 => [.int ((zup (zup (zup (zup (zup c (o + 3 + 2 * v) 0 1) (o + 3 + 2 * v) 1 0) (o + 3 + 2 * v) 2 (nI k)) (o + 3 + 2 * v) 3 x) (o + 3 + 2 * v) 4 y) (o + 3 + 2 * v) 0), .int ((zup (zup (zup (zup (zup c (o + 3 + 2 * v) 0 1) (o + 3 + 2 * v) 1 0) (o + 3 + 2 * v) 2 (nI k)) (o + 3 + 2 * v) 3 x) (o + 3 + 2 * v) 4 y) (o + 3 + 2 * v) 1), .int ((zup (zup (zup (zup (zup c (o + 3 + 2 * v) 0 1) (o + 3 + 2 * v) 1 0) (o + 3 + 2 * v) 2 (nI k)) (o + 3 + 2 * v) 3 x) (o + 3 + 2 * v) 4 y) (o + 3 + 2 * v) 2), .int ((zup (zup (zup (zup (zup c (o + 3 + 2 * v) 0 1) (o + 3 + 2 * v) 1 0) (o + 3 + 2 * v) 2 (nI k)) (o + 3 + 2 * v) 3 x) (o + 3 + 2 * v) 4 y) (o + 3 + 2 * v) 3), .int ((zup (zup (zup (zup (zup c (o + 3 + 2 * v) 0 1) (o + 3 + 2 * v) 1 0) (o + 3 + 2 * v) 2 (nI k)) (o + 3 + 2 * v) 3 x) (o + 3 + 2 * v) 4 y) (o + 3 + 2 * v) 4), .ref e1, .int ((zup (zup (zup (zup (zup c (o + 3 + 2 * v) 0 1) (o + 3 + 2 * v) 1 0) (o + 3 + 2 * v) 2 (nI k)) (o + 3 + 2 * v) 3 x) (o + 3 + 2 * v) 4 y) (o + 3 + 2 * v) 6), .int ((zup (zup (zup (zup (zup c (o + 3 + 2 * v) 0 1) (o + 3 + 2 * v) 1 0) (o + 3 + 2 * v) 2 (nI k)) (o + 3 + 2 * v) 3 x) (o + 3 + 2 * v) 4 y) (o + 3 + 2 * v) 7), .int ((zup (zup (zup (zup (zup c (o + 3 + 2 * v) 0 1) (o + 3 + 2 * v) 1 0) (o + 3 + 2 * v) 2 (nI k)) (o + 3 + 2 * v) 3 x) (o + 3 + 2 * v) 4 y) (o + 3 + 2 * v) 8), .int ((zup (zup (zup (zup (zup c (o + 3 + 2 * v) 0 1) (o + 3 + 2 * v) 1 0) (o + 3 + 2 * v) 2 (nI k)) (o + 3 + 2 * v) 3 x) (o + 3 + 2 * v) 4 y) (o + 3 + 2 * v) 9), .int ((zup (zup (zup (zup (zup c (o + 3 + 2 * v) 0 1) (o + 3 + 2 * v) 1 0) (o + 3 + 2 * v) 2 (nI k)) (o + 3 + 2 * v) 3 x) (o + 3 + 2 * v) 4 y) (o + 3 + 2 * v) 10), .int ((zup (zup (zup (zup (zup c (o + 3 + 2 * v) 0 1) (o + 3 + 2 * v) 1 0) (o + 3 + 2 * v) 2 (nI k)) (o + 3 + 2 * v) 3 x) (o + 3 + 2 * v) 4 y) (o + 3 + 2 * v) 11), .int ((zup (zup (zup (zup (zup c (o + 3 + 2 * v) 0 1) (o + 3 + 2 * v) 1 0) (o + 3 + 2 * v) 2 (nI k)) (o + 3 + 2 * v) 3 x) (o + 3 + 2 * v) 4 y) (o + 3 + 2 * v) 12)]) (x := f) B zid (hq _) (by have h9 : v < 4 := hv; have := zTk.lt ho (k := 3 + 2 * v) (by omega); omega) (zt_vc_e ho hv) (fun e1 => zt_vc ho hv _ _ e1) cl5 inX5 tyX5 tyX5_ok nmX5 (by decide) wf_X5_20 rfl rfl rfl rfl (Nat.le_of_ble_eq_true rfl) rfl dX5_start_28 ?_
  refine zv_aload_n (pc := 31) B 0 rfl dX5_start_31 ?_
  refine zv_iload_n (pc := 32) B 1 rfl dX5_start_32 ?_
  refine zv_callSN (pc := 33) (As := [.int (nI k)]) (rest := [.ref (b + (o + 3 + 2 * v))]) B (k_X6_stepOfKey l E b hk) ⟨zcnB 1 0 4 B rfl wn_X6 wcode_X6_stepOfKey (by decide +kernel) ⟨(Nat.le_of_ble_eq_true rfl), (Nat.le_of_ble_eq_true rfl)⟩, B.at ws_X6_stepOfKey⟩ rfl zid rfl (Nat.le_of_ble_eq_true rfl) dX5_start_33 ⟨(Nat.le_of_ble_eq_true rfl), (Nat.le_of_ble_eq_true rfl)⟩ (fun v9 u9 hv9 => ?_)
  subst hv9
  refine zv_st (st' := [.int (m_X6_stepOfKey k), .ref (b + (o + 3 + 2 * v))]) rfl ?_
  refine zs_put9 (pc := 36) (f := 6) (F := fun x9 => [.int (x9 0), .int (x9 1), .int (x9 2), .int (x9 3), .int (x9 4), .ref ((va_up en (o + 3 + 2 * v) q) (o + 3 + 2 * v)), .int (x9 6), .int (x9 7), .int (x9 8), .int (x9 9), .int (x9 10), .int (x9 11), .int (x9 12)]) B zid (by have h9 : v < 4 := hv; have := zTk.lt ho (k := 3 + 2 * v) (by omega); omega) (zt_vc_e ho hv) (fun x => zt_vc ho hv x _ _) cl5 inX5 tyX5 tyX5_ok nmX5 (by decide) wf_X5_42 rfl rfl rfl rfl (Nat.le_of_ble_eq_true rfl) (fun _ _ => rfl) dX5_start_36 ?_
  refine zv_aload_n (pc := 39) B 0 rfl dX5_start_39 ?_
  refine zv_iconst (pc := 40) (v := 0) B rfl dX5_start_40 ?_
  refine zs_put9 (pc := 41) (f := 7) (F := fun x9 => [.int (x9 0), .int (x9 1), .int (x9 2), .int (x9 3), .int (x9 4), .ref ((va_up en (o + 3 + 2 * v) q) (o + 3 + 2 * v)), .int (x9 6), .int (x9 7), .int (x9 8), .int (x9 9), .int (x9 10), .int (x9 11), .int (x9 12)]) B zid (by have h9 : v < 4 := hv; have := zTk.lt ho (k := 3 + 2 * v) (by omega); omega) (zt_vc_e ho hv) (fun x => zt_vc ho hv x _ _) cl5 inX5 tyX5 tyX5_ok nmX5 (by decide) wf_X5_45 rfl rfl rfl rfl (Nat.le_of_ble_eq_true rfl) (fun _ _ => rfl) dX5_start_41 ?_
  refine zv_aload_n (pc := 44) B 0 rfl dX5_start_44 ?_
  refine zv_iload (pc := 45) B 5 rfl dX5_start_45 ?_
  refine zs_put9 (pc := 47) (f := 8) (F := fun x9 => [.int (x9 0), .int (x9 1), .int (x9 2), .int (x9 3), .int (x9 4), .ref ((va_up en (o + 3 + 2 * v) q) (o + 3 + 2 * v)), .int (x9 6), .int (x9 7), .int (x9 8), .int (x9 9), .int (x9 10), .int (x9 11), .int (x9 12)]) B zid (by have h9 : v < 4 := hv; have := zTk.lt ho (k := 3 + 2 * v) (by omega); omega) (zt_vc_e ho hv) (fun x => zt_vc ho hv x _ _) cl5 inX5 tyX5 tyX5_ok nmX5 (by decide) wf_X5_48 rfl rfl rfl rfl (Nat.le_of_ble_eq_true rfl) (fun _ _ => rfl) dX5_start_47 ?_
  refine zv_aload_n (pc := 50) B 0 rfl dX5_start_50 ?_
  refine zv_iconst (pc := 51) (v := 0) B rfl dX5_start_51 ?_
  refine zs_put9 (pc := 52) (f := 10) (F := fun x9 => [.int (x9 0), .int (x9 1), .int (x9 2), .int (x9 3), .int (x9 4), .ref ((va_up en (o + 3 + 2 * v) q) (o + 3 + 2 * v)), .int (x9 6), .int (x9 7), .int (x9 8), .int (x9 9), .int (x9 10), .int (x9 11), .int (x9 12)]) B zid (by have h9 : v < 4 := hv; have := zTk.lt ho (k := 3 + 2 * v) (by omega); omega) (zt_vc_e ho hv) (fun x => zt_vc ho hv x _ _) cl5 inX5 tyX5 tyX5_ok nmX5 (by decide) wf_X5_51 rfl rfl rfl rfl (Nat.le_of_ble_eq_true rfl) (fun _ _ => rfl) dX5_start_52 ?_
  have hE1 : (zup (zup (zup (zup (zup (zup (zup (zup (zup c (o + 3 + 2 * v) 0 1) (o + 3 + 2 * v) 1 0) (o + 3 + 2 * v) 2 (nI k)) (o + 3 + 2 * v) 3 x) (o + 3 + 2 * v) 4 y) (o + 3 + 2 * v) 6 (m_X6_stepOfKey k)) (o + 3 + 2 * v) 7 0) (o + 3 + 2 * v) 8 z) (o + 3 + 2 * v) 10 0, va_up en (o + 3 + 2 * v) q, va_up ea (o + 3 + 2 * v) f) = m_X5_start c en ea o v k x y z q f := (by unfold m_X5_start; rfl)
  exact zv_vret (pc := 55) B hr (fun H hP => ⟨(), ⟨rfl, Eq.subst (motive := fun z => zfr (o + 3 + 2 * v) (o + 3 + 2 * v + 1) (o + 3 + 2 * v) (o + 3 + 2 * v) c z.1) hE1 (zfr.up (zfr.up (zfr.up (zfr.up (zfr.up (zfr.up (zfr.up (zfr.up (zfr.up zfr.refl (by have h8 : v < 4 := hv; omega)) (by have h8 : v < 4 := hv; omega)) (by have h8 : v < 4 := hv; omega)) (by have h8 : v < 4 := hv; omega)) (by have h8 : v < 4 := hv; omega)) (by have h8 : v < 4 := hv; omega)) (by have h8 : v < 4 := hv; omega)) (by have h8 : v < 4 := hv; omega)) (by have h8 : v < 4 := hv; omega)), Eq.subst (motive := fun z => zG z.1) hE1 (zG.vup (zG.vup (zG.vup (zG.vup (zG.vup (zG.vup (zG.vup (zG.vup (zG.vup hg ho hv (show zn _ ≤ 1 from (show zn _ ≤ 1 by decide))) ho hv (show zn _ ≤ 1 from (show zn _ ≤ 1 by decide))) ho hv (show zn _ ≤ zT9 from zn_T _)) ho hv (show zn _ ≤ zT9 from zn_T _)) ho hv (show zn _ ≤ 65535 from hy)) ho hv (show zn _ ≤ zT9 from zn_T _)) ho hv (show zn _ ≤ zT9 from zn_T _)) ho hv (show zn _ ≤ zT9 from zn_T _)) ho hv (show zn _ ≤ zT9 from zn_T _))⟩, Eq.subst (motive := fun z => zH E b z.1 w z.2.1 z.2.2 H) hE1 hP⟩) (Nat.le_of_ble_eq_true rfl) (Nat.le_of_ble_eq_true rfl) dX5_start_55

def m_X5_copyFrom (c : Nat → Nat → Int32) (en : Nat → Nat) (ea : Nat → Nat → Int32) (v : Nat) : (Nat → Nat → Int32) × (Nat → Nat) × (Nat → Nat → Int32) := (zup (zup (zup (zup (zup (zup (zup (zup (zup (zup (zup (zup c (70 + 3 + 2 * v) 0 (c (34 + 3 + 2 * v) 0)) (70 + 3 + 2 * v) 1 (c (34 + 3 + 2 * v) 1)) (70 + 3 + 2 * v) 2 (c (34 + 3 + 2 * v) 2)) (70 + 3 + 2 * v) 3 (c (34 + 3 + 2 * v) 3)) (70 + 3 + 2 * v) 4 (c (34 + 3 + 2 * v) 4)) (70 + 3 + 2 * v) 6 (c (34 + 3 + 2 * v) 6)) (70 + 3 + 2 * v) 7 (c (34 + 3 + 2 * v) 7)) (70 + 3 + 2 * v) 8 (c (34 + 3 + 2 * v) 8)) (70 + 3 + 2 * v) 9 (c (34 + 3 + 2 * v) 9)) (70 + 3 + 2 * v) 10 (c (34 + 3 + 2 * v) 10)) (70 + 3 + 2 * v) 11 (c (34 + 3 + 2 * v) 11)) (70 + 3 + 2 * v) 12 (c (34 + 3 + 2 * v) 12), va_up en (70 + 3 + 2 * v) (en (34 + 3 + 2 * v)), va_up ea (70 + 3 + 2 * v) (ea (34 + 3 + 2 * v)))
set_option maxRecDepth 100000 in
set_option maxHeartbeats 4000000 in
theorem k_X5_copyFrom (l : Launch) (E : zE) (b : Nat) (c : Nat → Nat → Int32) (w : Nat → Int64) (en : Nat → Nat) (ea : Nat → Nat → Int32) {v : Nat} (hv : v < 4) (hg : zG c) : zM l yX5_copyFrom (.code yX5_copyFrom cX5_copyFrom 2 none :: zAll) (zRm 0 0 0) E b [.ref (b + (70 + 3 + 2 * v)), .ref (b + (34 + 3 + 2 * v))] (zH E b c w en ea) (fun v9 (_ : Unit) => v9 = none ∧ zfr (70 + 3 + 2 * v) (70 + 3 + 2 * v + 1) (70 + 3 + 2 * v) (70 + 3 + 2 * v) c (m_X5_copyFrom c en ea v).1 ∧ zG (m_X5_copyFrom c en ea v).1) (fun _ => zH E b ((m_X5_copyFrom c en ea v).1) w ((m_X5_copyFrom c en ea v).2.1) ((m_X5_copyFrom c en ea v).2.2)) 0 0 := by
  refine zM_of "ToneGraph$Voice" (by decide) rfl rfl (Nat.le_of_ble_eq_true rfl) (L0 := [(0, .ref (b + (70 + 3 + 2 * v))), (1, .ref (b + (34 + 3 + 2 * v)))]) rfl ?_
  intro p e s m args below meth c9 B hr hname
  refine zv_aload_n (pc := 0) B 0 rfl dX5_copyFrom_0 ?_
  refine zv_aload_n (pc := 1) B 1 rfl dX5_copyFrom_1 ?_
  refine zv_get (pc := 2) (v := .int (c (34 + 3 + 2 * v) 0)) B (zat (by have h9 : v < 4 := hv; have := zTk.lt (Or.inl rfl) (k := 3 + 2 * v) (by omega); omega) (zt_vc (Or.inl rfl) hv _ _ _)) cl5 inX5 0 (by decide) wf_X5_24 rfl dX5_copyFrom_2 ?_
  refine zs_put9 (pc := 5) (f := 0) (F := fun x9 => [.int (x9 0), .int (x9 1), .int (x9 2), .int (x9 3), .int (x9 4), .ref (en (70 + 3 + 2 * v)), .int (x9 6), .int (x9 7), .int (x9 8), .int (x9 9), .int (x9 10), .int (x9 11), .int (x9 12)]) B zid (by have h9 : v < 4 := hv; have := zTk.lt (Or.inr rfl) (k := 3 + 2 * v) (by omega); omega) (zt_vc_e (Or.inr rfl) hv) (fun x => zt_vc (Or.inr rfl) hv x _ _) cl5 inX5 tyX5 tyX5_ok nmX5 (by decide) wf_X5_24 rfl rfl (znar_b (zG.vb hg (Or.inl rfl) hv).1) (zfit_b (zG.vb hg (Or.inl rfl) hv).1) (Nat.le_of_ble_eq_true rfl) (fun _ _ => rfl) dX5_copyFrom_5 ?_
  refine zv_aload_n (pc := 8) B 0 rfl dX5_copyFrom_8 ?_
  refine zv_aload_n (pc := 9) B 1 rfl dX5_copyFrom_9 ?_
  refine zv_get (pc := 10) (v := .int ((zup c (70 + 3 + 2 * v) 0 (c (34 + 3 + 2 * v) 0)) (34 + 3 + 2 * v) 1)) B (zat (by have h9 : v < 4 := hv; have := zTk.lt (Or.inl rfl) (k := 3 + 2 * v) (by omega); omega) (zt_vc (Or.inl rfl) hv _ _ _)) cl5 inX5 1 (by decide) wf_X5_28 rfl dX5_copyFrom_10 ?_
  refine zv_topi (y := c (34 + 3 + 2 * v) 1) (by rw [zup_i (i := 70 + 3 + 2 * v) (i' := 34 + 3 + 2 * v) _ _ _ (by have h8 : v < 4 := hv; have h8 : v < 4 := hv; omega)]) ?_
  refine zs_put9 (pc := 13) (f := 1) (F := fun x9 => [.int (x9 0), .int (x9 1), .int (x9 2), .int (x9 3), .int (x9 4), .ref (en (70 + 3 + 2 * v)), .int (x9 6), .int (x9 7), .int (x9 8), .int (x9 9), .int (x9 10), .int (x9 11), .int (x9 12)]) B zid (by have h9 : v < 4 := hv; have := zTk.lt (Or.inr rfl) (k := 3 + 2 * v) (by omega); omega) (zt_vc_e (Or.inr rfl) hv) (fun x => zt_vc (Or.inr rfl) hv x _ _) cl5 inX5 tyX5 tyX5_ok nmX5 (by decide) wf_X5_28 rfl rfl (znar_b (zG.vb hg (Or.inl rfl) hv).2.1) (zfit_b (zG.vb hg (Or.inl rfl) hv).2.1) (Nat.le_of_ble_eq_true rfl) (fun _ _ => rfl) dX5_copyFrom_13 ?_
  refine zv_aload_n (pc := 16) B 0 rfl dX5_copyFrom_16 ?_
  refine zv_aload_n (pc := 17) B 1 rfl dX5_copyFrom_17 ?_
  refine zv_get (pc := 18) (v := .int ((zup (zup c (70 + 3 + 2 * v) 0 (c (34 + 3 + 2 * v) 0)) (70 + 3 + 2 * v) 1 (c (34 + 3 + 2 * v) 1)) (34 + 3 + 2 * v) 2)) B (zat (by have h9 : v < 4 := hv; have := zTk.lt (Or.inl rfl) (k := 3 + 2 * v) (by omega); omega) (zt_vc (Or.inl rfl) hv _ _ _)) cl5 inX5 2 (by decide) wf_X5_31 rfl dX5_copyFrom_18 ?_
  refine zv_topi (y := c (34 + 3 + 2 * v) 2) (by rw [zup_i (i := 70 + 3 + 2 * v) (i' := 34 + 3 + 2 * v) _ _ _ (by have h8 : v < 4 := hv; have h8 : v < 4 := hv; omega), zup_i (i := 70 + 3 + 2 * v) (i' := 34 + 3 + 2 * v) _ _ _ (by have h8 : v < 4 := hv; have h8 : v < 4 := hv; omega)]) ?_
  refine zs_put9 (pc := 21) (f := 2) (F := fun x9 => [.int (x9 0), .int (x9 1), .int (x9 2), .int (x9 3), .int (x9 4), .ref (en (70 + 3 + 2 * v)), .int (x9 6), .int (x9 7), .int (x9 8), .int (x9 9), .int (x9 10), .int (x9 11), .int (x9 12)]) B zid (by have h9 : v < 4 := hv; have := zTk.lt (Or.inr rfl) (k := 3 + 2 * v) (by omega); omega) (zt_vc_e (Or.inr rfl) hv) (fun x => zt_vc (Or.inr rfl) hv x _ _) cl5 inX5 tyX5 tyX5_ok nmX5 (by decide) wf_X5_31 rfl rfl rfl rfl (Nat.le_of_ble_eq_true rfl) (fun _ _ => rfl) dX5_copyFrom_21 ?_
  refine zv_aload_n (pc := 24) B 0 rfl dX5_copyFrom_24 ?_
  refine zv_aload_n (pc := 25) B 1 rfl dX5_copyFrom_25 ?_
  refine zv_get (pc := 26) (v := .int ((zup (zup (zup c (70 + 3 + 2 * v) 0 (c (34 + 3 + 2 * v) 0)) (70 + 3 + 2 * v) 1 (c (34 + 3 + 2 * v) 1)) (70 + 3 + 2 * v) 2 (c (34 + 3 + 2 * v) 2)) (34 + 3 + 2 * v) 3)) B (zat (by have h9 : v < 4 := hv; have := zTk.lt (Or.inl rfl) (k := 3 + 2 * v) (by omega); omega) (zt_vc (Or.inl rfl) hv _ _ _)) cl5 inX5 3 (by decide) wf_X5_35 rfl dX5_copyFrom_26 ?_
  refine zv_topi (y := c (34 + 3 + 2 * v) 3) (by rw [zup_i (i := 70 + 3 + 2 * v) (i' := 34 + 3 + 2 * v) _ _ _ (by have h8 : v < 4 := hv; have h8 : v < 4 := hv; omega), zup_i (i := 70 + 3 + 2 * v) (i' := 34 + 3 + 2 * v) _ _ _ (by have h8 : v < 4 := hv; have h8 : v < 4 := hv; omega), zup_i (i := 70 + 3 + 2 * v) (i' := 34 + 3 + 2 * v) _ _ _ (by have h8 : v < 4 := hv; have h8 : v < 4 := hv; omega)]) ?_
  refine zs_put9 (pc := 29) (f := 3) (F := fun x9 => [.int (x9 0), .int (x9 1), .int (x9 2), .int (x9 3), .int (x9 4), .ref (en (70 + 3 + 2 * v)), .int (x9 6), .int (x9 7), .int (x9 8), .int (x9 9), .int (x9 10), .int (x9 11), .int (x9 12)]) B zid (by have h9 : v < 4 := hv; have := zTk.lt (Or.inr rfl) (k := 3 + 2 * v) (by omega); omega) (zt_vc_e (Or.inr rfl) hv) (fun x => zt_vc (Or.inr rfl) hv x _ _) cl5 inX5 tyX5 tyX5_ok nmX5 (by decide) wf_X5_35 rfl rfl rfl rfl (Nat.le_of_ble_eq_true rfl) (fun _ _ => rfl) dX5_copyFrom_29 ?_
  refine zv_aload_n (pc := 32) B 0 rfl dX5_copyFrom_32 ?_
  refine zv_aload_n (pc := 33) B 1 rfl dX5_copyFrom_33 ?_
  refine zv_get (pc := 34) (v := .int ((zup (zup (zup (zup c (70 + 3 + 2 * v) 0 (c (34 + 3 + 2 * v) 0)) (70 + 3 + 2 * v) 1 (c (34 + 3 + 2 * v) 1)) (70 + 3 + 2 * v) 2 (c (34 + 3 + 2 * v) 2)) (70 + 3 + 2 * v) 3 (c (34 + 3 + 2 * v) 3)) (34 + 3 + 2 * v) 4)) B (zat (by have h9 : v < 4 := hv; have := zTk.lt (Or.inl rfl) (k := 3 + 2 * v) (by omega); omega) (zt_vc (Or.inl rfl) hv _ _ _)) cl5 inX5 4 (by decide) wf_X5_9 rfl dX5_copyFrom_34 ?_
  refine zv_topi (y := c (34 + 3 + 2 * v) 4) (by rw [zup_i (i := 70 + 3 + 2 * v) (i' := 34 + 3 + 2 * v) _ _ _ (by have h8 : v < 4 := hv; have h8 : v < 4 := hv; omega), zup_i (i := 70 + 3 + 2 * v) (i' := 34 + 3 + 2 * v) _ _ _ (by have h8 : v < 4 := hv; have h8 : v < 4 := hv; omega), zup_i (i := 70 + 3 + 2 * v) (i' := 34 + 3 + 2 * v) _ _ _ (by have h8 : v < 4 := hv; have h8 : v < 4 := hv; omega), zup_i (i := 70 + 3 + 2 * v) (i' := 34 + 3 + 2 * v) _ _ _ (by have h8 : v < 4 := hv; have h8 : v < 4 := hv; omega)]) ?_
  refine zs_put9 (pc := 37) (f := 4) (F := fun x9 => [.int (x9 0), .int (x9 1), .int (x9 2), .int (x9 3), .int (x9 4), .ref (en (70 + 3 + 2 * v)), .int (x9 6), .int (x9 7), .int (x9 8), .int (x9 9), .int (x9 10), .int (x9 11), .int (x9 12)]) B zid (by have h9 : v < 4 := hv; have := zTk.lt (Or.inr rfl) (k := 3 + 2 * v) (by omega); omega) (zt_vc_e (Or.inr rfl) hv) (fun x => zt_vc (Or.inr rfl) hv x _ _) cl5 inX5 tyX5 tyX5_ok nmX5 (by decide) wf_X5_9 rfl rfl (znar_c (zG.vb hg (Or.inl rfl) hv).2.2) (zfit_c (zG.vb hg (Or.inl rfl) hv).2.2) (Nat.le_of_ble_eq_true rfl) (fun _ _ => rfl) dX5_copyFrom_37 ?_
  refine zv_aload_n (pc := 40) B 0 rfl dX5_copyFrom_40 ?_
  refine zv_aload_n (pc := 41) B 1 rfl dX5_copyFrom_41 ?_
  refine zv_get (pc := 42) (v := .ref (en (34 + 3 + 2 * v))) B (zat (by have h9 : v < 4 := hv; have := zTk.lt (Or.inl rfl) (k := 3 + 2 * v) (by omega); omega) (zt_vc (Or.inl rfl) hv _ _ _)) cl5 inX5 5 (by decide) wf_X5_20 rfl dX5_copyFrom_42 ?_
  refine zs_pute (pc := 45) (f := 5) (F := fun e1 => [.int ((zup (zup (zup (zup (zup c (70 + 3 + 2 * v) 0 (c (34 + 3 + 2 * v) 0)) (70 + 3 + 2 * v) 1 (c (34 + 3 + 2 * v) 1)) (70 + 3 + 2 * v) 2 (c (34 + 3 + 2 * v) 2)) (70 + 3 + 2 * v) 3 (c (34 + 3 + 2 * v) 3)) (70 + 3 + 2 * v) 4 (c (34 + 3 + 2 * v) 4)) (70 + 3 + 2 * v) 0), .int ((zup (zup (zup (zup (zup c (70 + 3 + 2 * v) 0 (c (34 + 3 + 2 * v) 0)) (70 + 3 + 2 * v) 1 (c (34 + 3 + 2 * v) 1)) (70 + 3 + 2 * v) 2 (c (34 + 3 + 2 * v) 2)) (70 + 3 + 2 * v) 3 (c (34 + 3 + 2 * v) 3)) (70 + 3 + 2 * v) 4 (c (34 + 3 + 2 * v) 4)) (70 + 3 + 2 * v) 1), .int ((zup (zup (zup (zup (zup c (70 + 3 + 2 * v) 0 (c (34 + 3 + 2 * v) 0)) (70 + 3 + 2 * v) 1 (c (34 + 3 + 2 * v) 1)) (70 + 3 + 2 * v) 2 (c (34 + 3 + 2 * v) 2)) (70 + 3 + 2 * v) 3 (c (34 + 3 + 2 * v) 3)) (70 + 3 + 2 * v) 4 (c (34 + 3 + 2 * v) 4)) (70 + 3 + 2 * v) 2), .int ((zup (zup (zup (zup (zup c (70 + 3 + 2 * v) 0 (c (34 + 3 + 2 * v) 0)) (70 + 3 + 2 * v) 1 (c (34 + 3 + 2 * v) 1)) (70 + 3 + 2 * v) 2 (c (34 + 3 + 2 * v) 2)) (70 + 3 + 2 * v) 3 (c (34 + 3 + 2 * v) 3)) (70 + 3 + 2 * v) 4 (c (34 + 3 + 2 * v) 4)) (70 + 3 + 2 * v) 3), .int ((zup (zup (zup (zup (zup c (70 + 3 + 2 * v) 0 (c (34 + 3 + 2 * v) 0)) (70 + 3 + 2 * v) 1 (c (34 + 3 + 2 * v) 1)) (70 + 3 + 2 * v) 2 (c (34 + 3 + 2 * v) 2)) (70 + 3 + 2 * v) 3 (c (34 + 3 + 2 * v) 3)) (70 + 3 + 2 * v) 4 (c (34 + 3 + 2 * v) 4)) (70 + 3 + 2 * v) 4), .ref e1, .int ((zup (zup (zup (zup (zup c (70 + 3 + 2 * v) 0 (c (34 + 3 + 2 * v) 0)) (70 + 3 + 2 * v) 1 (c (34 + 3 + 2 * v) 1)) (70 + 3 + 2 * v) 2 (c (34 + 3 + 2 * v) 2)) (70 + 3 + 2 * v) 3 (c (34 + 3 + 2 * v) 3)) (70 + 3 + 2 * v) 4 (c (34 + 3 + 2 * v) 4)) (70 + 3 + 2 * v) 6), .int ((zup (zup (zup (zup (zup c (70 + 3 + 2 * v) 0 (c (34 + 3 + 2 * v) 0)) (70 + 3 + 2 * v) 1 (c (34 + 3 + 2 * v) 1)) (70 + 3 + 2 * v) 2 (c (34 + 3 + 2 * v) 2)) (70 + 3 + 2 * v) 3 (c (34 + 3 + 2 * v) 3)) (70 + 3 + 2 * v) 4 (c (34 + 3 + 2 * v) 4)) (70 + 3 + 2 * v) 7), .int ((zup (zup (zup (zup (zup c (70 + 3 + 2 * v) 0 (c (34 + 3 + 2 * v) 0)) (70 + 3 + 2 * v) 1 (c (34 + 3 + 2 * v) 1)) (70 + 3 + 2 * v) 2 (c (34 + 3 + 2 * v) 2)) (70 + 3 + 2 * v) 3 (c (34 + 3 + 2 * v) 3)) (70 + 3 + 2 * v) 4 (c (34 + 3 + 2 * v) 4)) (70 + 3 + 2 * v) 8), .int ((zup (zup (zup (zup (zup c (70 + 3 + 2 * v) 0 (c (34 + 3 + 2 * v) 0)) (70 + 3 + 2 * v) 1 (c (34 + 3 + 2 * v) 1)) (70 + 3 + 2 * v) 2 (c (34 + 3 + 2 * v) 2)) (70 + 3 + 2 * v) 3 (c (34 + 3 + 2 * v) 3)) (70 + 3 + 2 * v) 4 (c (34 + 3 + 2 * v) 4)) (70 + 3 + 2 * v) 9), .int ((zup (zup (zup (zup (zup c (70 + 3 + 2 * v) 0 (c (34 + 3 + 2 * v) 0)) (70 + 3 + 2 * v) 1 (c (34 + 3 + 2 * v) 1)) (70 + 3 + 2 * v) 2 (c (34 + 3 + 2 * v) 2)) (70 + 3 + 2 * v) 3 (c (34 + 3 + 2 * v) 3)) (70 + 3 + 2 * v) 4 (c (34 + 3 + 2 * v) 4)) (70 + 3 + 2 * v) 10), .int ((zup (zup (zup (zup (zup c (70 + 3 + 2 * v) 0 (c (34 + 3 + 2 * v) 0)) (70 + 3 + 2 * v) 1 (c (34 + 3 + 2 * v) 1)) (70 + 3 + 2 * v) 2 (c (34 + 3 + 2 * v) 2)) (70 + 3 + 2 * v) 3 (c (34 + 3 + 2 * v) 3)) (70 + 3 + 2 * v) 4 (c (34 + 3 + 2 * v) 4)) (70 + 3 + 2 * v) 11), .int ((zup (zup (zup (zup (zup c (70 + 3 + 2 * v) 0 (c (34 + 3 + 2 * v) 0)) (70 + 3 + 2 * v) 1 (c (34 + 3 + 2 * v) 1)) (70 + 3 + 2 * v) 2 (c (34 + 3 + 2 * v) 2)) (70 + 3 + 2 * v) 3 (c (34 + 3 + 2 * v) 3)) (70 + 3 + 2 * v) 4 (c (34 + 3 + 2 * v) 4)) (70 + 3 + 2 * v) 12)]) (x := ea (34 + 3 + 2 * v)) B zid (zae _ (zt_vc_h (Or.inl rfl) hv)) (by have h9 : v < 4 := hv; have := zTk.lt (Or.inr rfl) (k := 3 + 2 * v) (by omega); omega) (zt_vc_e (Or.inr rfl) hv) (fun e1 => zt_vc (Or.inr rfl) hv _ _ e1) cl5 inX5 tyX5 tyX5_ok nmX5 (by decide) wf_X5_20 rfl rfl rfl rfl (Nat.le_of_ble_eq_true rfl) rfl dX5_copyFrom_45 ?_
  refine zv_aload_n (pc := 48) B 0 rfl dX5_copyFrom_48 ?_
  refine zv_aload_n (pc := 49) B 1 rfl dX5_copyFrom_49 ?_
  refine zv_get (pc := 50) (v := .int ((zup (zup (zup (zup (zup c (70 + 3 + 2 * v) 0 (c (34 + 3 + 2 * v) 0)) (70 + 3 + 2 * v) 1 (c (34 + 3 + 2 * v) 1)) (70 + 3 + 2 * v) 2 (c (34 + 3 + 2 * v) 2)) (70 + 3 + 2 * v) 3 (c (34 + 3 + 2 * v) 3)) (70 + 3 + 2 * v) 4 (c (34 + 3 + 2 * v) 4)) (34 + 3 + 2 * v) 6)) B (zat (by have h9 : v < 4 := hv; have := zTk.lt (Or.inl rfl) (k := 3 + 2 * v) (by omega); omega) (zt_vc (Or.inl rfl) hv _ _ _)) cl5 inX5 6 (by decide) wf_X5_42 rfl dX5_copyFrom_50 ?_
  refine zv_topi (y := c (34 + 3 + 2 * v) 6) (by rw [zup_i (i := 70 + 3 + 2 * v) (i' := 34 + 3 + 2 * v) _ _ _ (by have h8 : v < 4 := hv; have h8 : v < 4 := hv; omega), zup_i (i := 70 + 3 + 2 * v) (i' := 34 + 3 + 2 * v) _ _ _ (by have h8 : v < 4 := hv; have h8 : v < 4 := hv; omega), zup_i (i := 70 + 3 + 2 * v) (i' := 34 + 3 + 2 * v) _ _ _ (by have h8 : v < 4 := hv; have h8 : v < 4 := hv; omega), zup_i (i := 70 + 3 + 2 * v) (i' := 34 + 3 + 2 * v) _ _ _ (by have h8 : v < 4 := hv; have h8 : v < 4 := hv; omega), zup_i (i := 70 + 3 + 2 * v) (i' := 34 + 3 + 2 * v) _ _ _ (by have h8 : v < 4 := hv; have h8 : v < 4 := hv; omega)]) ?_
  refine zs_put9 (pc := 53) (f := 6) (F := fun x9 => [.int (x9 0), .int (x9 1), .int (x9 2), .int (x9 3), .int (x9 4), .ref ((va_up en (70 + 3 + 2 * v) (en (34 + 3 + 2 * v))) (70 + 3 + 2 * v)), .int (x9 6), .int (x9 7), .int (x9 8), .int (x9 9), .int (x9 10), .int (x9 11), .int (x9 12)]) B zid (by have h9 : v < 4 := hv; have := zTk.lt (Or.inr rfl) (k := 3 + 2 * v) (by omega); omega) (zt_vc_e (Or.inr rfl) hv) (fun x => zt_vc (Or.inr rfl) hv x _ _) cl5 inX5 tyX5 tyX5_ok nmX5 (by decide) wf_X5_42 rfl rfl rfl rfl (Nat.le_of_ble_eq_true rfl) (fun _ _ => rfl) dX5_copyFrom_53 ?_
  refine zv_aload_n (pc := 56) B 0 rfl dX5_copyFrom_56 ?_
  refine zv_aload_n (pc := 57) B 1 rfl dX5_copyFrom_57 ?_
  refine zv_get (pc := 58) (v := .int ((zup (zup (zup (zup (zup (zup c (70 + 3 + 2 * v) 0 (c (34 + 3 + 2 * v) 0)) (70 + 3 + 2 * v) 1 (c (34 + 3 + 2 * v) 1)) (70 + 3 + 2 * v) 2 (c (34 + 3 + 2 * v) 2)) (70 + 3 + 2 * v) 3 (c (34 + 3 + 2 * v) 3)) (70 + 3 + 2 * v) 4 (c (34 + 3 + 2 * v) 4)) (70 + 3 + 2 * v) 6 (c (34 + 3 + 2 * v) 6)) (34 + 3 + 2 * v) 7)) B (zat (by have h9 : v < 4 := hv; have := zTk.lt (Or.inl rfl) (k := 3 + 2 * v) (by omega); omega) (zt_vc (Or.inl rfl) hv _ _ _)) cl5 inX5 7 (by decide) wf_X5_45 rfl dX5_copyFrom_58 ?_
  refine zv_topi (y := c (34 + 3 + 2 * v) 7) (by rw [zup_i (i := 70 + 3 + 2 * v) (i' := 34 + 3 + 2 * v) _ _ _ (by have h8 : v < 4 := hv; have h8 : v < 4 := hv; omega), zup_i (i := 70 + 3 + 2 * v) (i' := 34 + 3 + 2 * v) _ _ _ (by have h8 : v < 4 := hv; have h8 : v < 4 := hv; omega), zup_i (i := 70 + 3 + 2 * v) (i' := 34 + 3 + 2 * v) _ _ _ (by have h8 : v < 4 := hv; have h8 : v < 4 := hv; omega), zup_i (i := 70 + 3 + 2 * v) (i' := 34 + 3 + 2 * v) _ _ _ (by have h8 : v < 4 := hv; have h8 : v < 4 := hv; omega), zup_i (i := 70 + 3 + 2 * v) (i' := 34 + 3 + 2 * v) _ _ _ (by have h8 : v < 4 := hv; have h8 : v < 4 := hv; omega), zup_i (i := 70 + 3 + 2 * v) (i' := 34 + 3 + 2 * v) _ _ _ (by have h8 : v < 4 := hv; have h8 : v < 4 := hv; omega)]) ?_
  refine zs_put9 (pc := 61) (f := 7) (F := fun x9 => [.int (x9 0), .int (x9 1), .int (x9 2), .int (x9 3), .int (x9 4), .ref ((va_up en (70 + 3 + 2 * v) (en (34 + 3 + 2 * v))) (70 + 3 + 2 * v)), .int (x9 6), .int (x9 7), .int (x9 8), .int (x9 9), .int (x9 10), .int (x9 11), .int (x9 12)]) B zid (by have h9 : v < 4 := hv; have := zTk.lt (Or.inr rfl) (k := 3 + 2 * v) (by omega); omega) (zt_vc_e (Or.inr rfl) hv) (fun x => zt_vc (Or.inr rfl) hv x _ _) cl5 inX5 tyX5 tyX5_ok nmX5 (by decide) wf_X5_45 rfl rfl rfl rfl (Nat.le_of_ble_eq_true rfl) (fun _ _ => rfl) dX5_copyFrom_61 ?_
  refine zv_aload_n (pc := 64) B 0 rfl dX5_copyFrom_64 ?_
  refine zv_aload_n (pc := 65) B 1 rfl dX5_copyFrom_65 ?_
  refine zv_get (pc := 66) (v := .int ((zup (zup (zup (zup (zup (zup (zup c (70 + 3 + 2 * v) 0 (c (34 + 3 + 2 * v) 0)) (70 + 3 + 2 * v) 1 (c (34 + 3 + 2 * v) 1)) (70 + 3 + 2 * v) 2 (c (34 + 3 + 2 * v) 2)) (70 + 3 + 2 * v) 3 (c (34 + 3 + 2 * v) 3)) (70 + 3 + 2 * v) 4 (c (34 + 3 + 2 * v) 4)) (70 + 3 + 2 * v) 6 (c (34 + 3 + 2 * v) 6)) (70 + 3 + 2 * v) 7 (c (34 + 3 + 2 * v) 7)) (34 + 3 + 2 * v) 8)) B (zat (by have h9 : v < 4 := hv; have := zTk.lt (Or.inl rfl) (k := 3 + 2 * v) (by omega); omega) (zt_vc (Or.inl rfl) hv _ _ _)) cl5 inX5 8 (by decide) wf_X5_48 rfl dX5_copyFrom_66 ?_
  refine zv_topi (y := c (34 + 3 + 2 * v) 8) (by rw [zup_i (i := 70 + 3 + 2 * v) (i' := 34 + 3 + 2 * v) _ _ _ (by have h8 : v < 4 := hv; have h8 : v < 4 := hv; omega), zup_i (i := 70 + 3 + 2 * v) (i' := 34 + 3 + 2 * v) _ _ _ (by have h8 : v < 4 := hv; have h8 : v < 4 := hv; omega), zup_i (i := 70 + 3 + 2 * v) (i' := 34 + 3 + 2 * v) _ _ _ (by have h8 : v < 4 := hv; have h8 : v < 4 := hv; omega), zup_i (i := 70 + 3 + 2 * v) (i' := 34 + 3 + 2 * v) _ _ _ (by have h8 : v < 4 := hv; have h8 : v < 4 := hv; omega), zup_i (i := 70 + 3 + 2 * v) (i' := 34 + 3 + 2 * v) _ _ _ (by have h8 : v < 4 := hv; have h8 : v < 4 := hv; omega), zup_i (i := 70 + 3 + 2 * v) (i' := 34 + 3 + 2 * v) _ _ _ (by have h8 : v < 4 := hv; have h8 : v < 4 := hv; omega), zup_i (i := 70 + 3 + 2 * v) (i' := 34 + 3 + 2 * v) _ _ _ (by have h8 : v < 4 := hv; have h8 : v < 4 := hv; omega)]) ?_
  refine zs_put9 (pc := 69) (f := 8) (F := fun x9 => [.int (x9 0), .int (x9 1), .int (x9 2), .int (x9 3), .int (x9 4), .ref ((va_up en (70 + 3 + 2 * v) (en (34 + 3 + 2 * v))) (70 + 3 + 2 * v)), .int (x9 6), .int (x9 7), .int (x9 8), .int (x9 9), .int (x9 10), .int (x9 11), .int (x9 12)]) B zid (by have h9 : v < 4 := hv; have := zTk.lt (Or.inr rfl) (k := 3 + 2 * v) (by omega); omega) (zt_vc_e (Or.inr rfl) hv) (fun x => zt_vc (Or.inr rfl) hv x _ _) cl5 inX5 tyX5 tyX5_ok nmX5 (by decide) wf_X5_48 rfl rfl rfl rfl (Nat.le_of_ble_eq_true rfl) (fun _ _ => rfl) dX5_copyFrom_69 ?_
  refine zv_aload_n (pc := 72) B 0 rfl dX5_copyFrom_72 ?_
  refine zv_aload_n (pc := 73) B 1 rfl dX5_copyFrom_73 ?_
  refine zv_get (pc := 74) (v := .int ((zup (zup (zup (zup (zup (zup (zup (zup c (70 + 3 + 2 * v) 0 (c (34 + 3 + 2 * v) 0)) (70 + 3 + 2 * v) 1 (c (34 + 3 + 2 * v) 1)) (70 + 3 + 2 * v) 2 (c (34 + 3 + 2 * v) 2)) (70 + 3 + 2 * v) 3 (c (34 + 3 + 2 * v) 3)) (70 + 3 + 2 * v) 4 (c (34 + 3 + 2 * v) 4)) (70 + 3 + 2 * v) 6 (c (34 + 3 + 2 * v) 6)) (70 + 3 + 2 * v) 7 (c (34 + 3 + 2 * v) 7)) (70 + 3 + 2 * v) 8 (c (34 + 3 + 2 * v) 8)) (34 + 3 + 2 * v) 9)) B (zat (by have h9 : v < 4 := hv; have := zTk.lt (Or.inl rfl) (k := 3 + 2 * v) (by omega); omega) (zt_vc (Or.inl rfl) hv _ _ _)) cl5 inX5 9 (by decide) wf_X5_64 rfl dX5_copyFrom_74 ?_
  refine zv_topi (y := c (34 + 3 + 2 * v) 9) (by rw [zup_i (i := 70 + 3 + 2 * v) (i' := 34 + 3 + 2 * v) _ _ _ (by have h8 : v < 4 := hv; have h8 : v < 4 := hv; omega), zup_i (i := 70 + 3 + 2 * v) (i' := 34 + 3 + 2 * v) _ _ _ (by have h8 : v < 4 := hv; have h8 : v < 4 := hv; omega), zup_i (i := 70 + 3 + 2 * v) (i' := 34 + 3 + 2 * v) _ _ _ (by have h8 : v < 4 := hv; have h8 : v < 4 := hv; omega), zup_i (i := 70 + 3 + 2 * v) (i' := 34 + 3 + 2 * v) _ _ _ (by have h8 : v < 4 := hv; have h8 : v < 4 := hv; omega), zup_i (i := 70 + 3 + 2 * v) (i' := 34 + 3 + 2 * v) _ _ _ (by have h8 : v < 4 := hv; have h8 : v < 4 := hv; omega), zup_i (i := 70 + 3 + 2 * v) (i' := 34 + 3 + 2 * v) _ _ _ (by have h8 : v < 4 := hv; have h8 : v < 4 := hv; omega), zup_i (i := 70 + 3 + 2 * v) (i' := 34 + 3 + 2 * v) _ _ _ (by have h8 : v < 4 := hv; have h8 : v < 4 := hv; omega), zup_i (i := 70 + 3 + 2 * v) (i' := 34 + 3 + 2 * v) _ _ _ (by have h8 : v < 4 := hv; have h8 : v < 4 := hv; omega)]) ?_
  refine zs_put9 (pc := 77) (f := 9) (F := fun x9 => [.int (x9 0), .int (x9 1), .int (x9 2), .int (x9 3), .int (x9 4), .ref ((va_up en (70 + 3 + 2 * v) (en (34 + 3 + 2 * v))) (70 + 3 + 2 * v)), .int (x9 6), .int (x9 7), .int (x9 8), .int (x9 9), .int (x9 10), .int (x9 11), .int (x9 12)]) B zid (by have h9 : v < 4 := hv; have := zTk.lt (Or.inr rfl) (k := 3 + 2 * v) (by omega); omega) (zt_vc_e (Or.inr rfl) hv) (fun x => zt_vc (Or.inr rfl) hv x _ _) cl5 inX5 tyX5 tyX5_ok nmX5 (by decide) wf_X5_64 rfl rfl rfl rfl (Nat.le_of_ble_eq_true rfl) (fun _ _ => rfl) dX5_copyFrom_77 ?_
  refine zv_aload_n (pc := 80) B 0 rfl dX5_copyFrom_80 ?_
  refine zv_aload_n (pc := 81) B 1 rfl dX5_copyFrom_81 ?_
  refine zv_get (pc := 82) (v := .int ((zup (zup (zup (zup (zup (zup (zup (zup (zup c (70 + 3 + 2 * v) 0 (c (34 + 3 + 2 * v) 0)) (70 + 3 + 2 * v) 1 (c (34 + 3 + 2 * v) 1)) (70 + 3 + 2 * v) 2 (c (34 + 3 + 2 * v) 2)) (70 + 3 + 2 * v) 3 (c (34 + 3 + 2 * v) 3)) (70 + 3 + 2 * v) 4 (c (34 + 3 + 2 * v) 4)) (70 + 3 + 2 * v) 6 (c (34 + 3 + 2 * v) 6)) (70 + 3 + 2 * v) 7 (c (34 + 3 + 2 * v) 7)) (70 + 3 + 2 * v) 8 (c (34 + 3 + 2 * v) 8)) (70 + 3 + 2 * v) 9 (c (34 + 3 + 2 * v) 9)) (34 + 3 + 2 * v) 10)) B (zat (by have h9 : v < 4 := hv; have := zTk.lt (Or.inl rfl) (k := 3 + 2 * v) (by omega); omega) (zt_vc (Or.inl rfl) hv _ _ _)) cl5 inX5 10 (by decide) wf_X5_51 rfl dX5_copyFrom_82 ?_
  refine zv_topi (y := c (34 + 3 + 2 * v) 10) (by rw [zup_i (i := 70 + 3 + 2 * v) (i' := 34 + 3 + 2 * v) _ _ _ (by have h8 : v < 4 := hv; have h8 : v < 4 := hv; omega), zup_i (i := 70 + 3 + 2 * v) (i' := 34 + 3 + 2 * v) _ _ _ (by have h8 : v < 4 := hv; have h8 : v < 4 := hv; omega), zup_i (i := 70 + 3 + 2 * v) (i' := 34 + 3 + 2 * v) _ _ _ (by have h8 : v < 4 := hv; have h8 : v < 4 := hv; omega), zup_i (i := 70 + 3 + 2 * v) (i' := 34 + 3 + 2 * v) _ _ _ (by have h8 : v < 4 := hv; have h8 : v < 4 := hv; omega), zup_i (i := 70 + 3 + 2 * v) (i' := 34 + 3 + 2 * v) _ _ _ (by have h8 : v < 4 := hv; have h8 : v < 4 := hv; omega), zup_i (i := 70 + 3 + 2 * v) (i' := 34 + 3 + 2 * v) _ _ _ (by have h8 : v < 4 := hv; have h8 : v < 4 := hv; omega), zup_i (i := 70 + 3 + 2 * v) (i' := 34 + 3 + 2 * v) _ _ _ (by have h8 : v < 4 := hv; have h8 : v < 4 := hv; omega), zup_i (i := 70 + 3 + 2 * v) (i' := 34 + 3 + 2 * v) _ _ _ (by have h8 : v < 4 := hv; have h8 : v < 4 := hv; omega), zup_i (i := 70 + 3 + 2 * v) (i' := 34 + 3 + 2 * v) _ _ _ (by have h8 : v < 4 := hv; have h8 : v < 4 := hv; omega)]) ?_
  refine zs_put9 (pc := 85) (f := 10) (F := fun x9 => [.int (x9 0), .int (x9 1), .int (x9 2), .int (x9 3), .int (x9 4), .ref ((va_up en (70 + 3 + 2 * v) (en (34 + 3 + 2 * v))) (70 + 3 + 2 * v)), .int (x9 6), .int (x9 7), .int (x9 8), .int (x9 9), .int (x9 10), .int (x9 11), .int (x9 12)]) B zid (by have h9 : v < 4 := hv; have := zTk.lt (Or.inr rfl) (k := 3 + 2 * v) (by omega); omega) (zt_vc_e (Or.inr rfl) hv) (fun x => zt_vc (Or.inr rfl) hv x _ _) cl5 inX5 tyX5 tyX5_ok nmX5 (by decide) wf_X5_51 rfl rfl rfl rfl (Nat.le_of_ble_eq_true rfl) (fun _ _ => rfl) dX5_copyFrom_85 ?_
  refine zv_aload_n (pc := 88) B 0 rfl dX5_copyFrom_88 ?_
  refine zv_aload_n (pc := 89) B 1 rfl dX5_copyFrom_89 ?_
  refine zv_get (pc := 90) (v := .int ((zup (zup (zup (zup (zup (zup (zup (zup (zup (zup c (70 + 3 + 2 * v) 0 (c (34 + 3 + 2 * v) 0)) (70 + 3 + 2 * v) 1 (c (34 + 3 + 2 * v) 1)) (70 + 3 + 2 * v) 2 (c (34 + 3 + 2 * v) 2)) (70 + 3 + 2 * v) 3 (c (34 + 3 + 2 * v) 3)) (70 + 3 + 2 * v) 4 (c (34 + 3 + 2 * v) 4)) (70 + 3 + 2 * v) 6 (c (34 + 3 + 2 * v) 6)) (70 + 3 + 2 * v) 7 (c (34 + 3 + 2 * v) 7)) (70 + 3 + 2 * v) 8 (c (34 + 3 + 2 * v) 8)) (70 + 3 + 2 * v) 9 (c (34 + 3 + 2 * v) 9)) (70 + 3 + 2 * v) 10 (c (34 + 3 + 2 * v) 10)) (34 + 3 + 2 * v) 11)) B (zat (by have h9 : v < 4 := hv; have := zTk.lt (Or.inl rfl) (k := 3 + 2 * v) (by omega); omega) (zt_vc (Or.inl rfl) hv _ _ _)) cl5 inX5 11 (by decide) wf_X5_58 rfl dX5_copyFrom_90 ?_
  refine zv_topi (y := c (34 + 3 + 2 * v) 11) (by rw [zup_i (i := 70 + 3 + 2 * v) (i' := 34 + 3 + 2 * v) _ _ _ (by have h8 : v < 4 := hv; have h8 : v < 4 := hv; omega), zup_i (i := 70 + 3 + 2 * v) (i' := 34 + 3 + 2 * v) _ _ _ (by have h8 : v < 4 := hv; have h8 : v < 4 := hv; omega), zup_i (i := 70 + 3 + 2 * v) (i' := 34 + 3 + 2 * v) _ _ _ (by have h8 : v < 4 := hv; have h8 : v < 4 := hv; omega), zup_i (i := 70 + 3 + 2 * v) (i' := 34 + 3 + 2 * v) _ _ _ (by have h8 : v < 4 := hv; have h8 : v < 4 := hv; omega), zup_i (i := 70 + 3 + 2 * v) (i' := 34 + 3 + 2 * v) _ _ _ (by have h8 : v < 4 := hv; have h8 : v < 4 := hv; omega), zup_i (i := 70 + 3 + 2 * v) (i' := 34 + 3 + 2 * v) _ _ _ (by have h8 : v < 4 := hv; have h8 : v < 4 := hv; omega), zup_i (i := 70 + 3 + 2 * v) (i' := 34 + 3 + 2 * v) _ _ _ (by have h8 : v < 4 := hv; have h8 : v < 4 := hv; omega), zup_i (i := 70 + 3 + 2 * v) (i' := 34 + 3 + 2 * v) _ _ _ (by have h8 : v < 4 := hv; have h8 : v < 4 := hv; omega), zup_i (i := 70 + 3 + 2 * v) (i' := 34 + 3 + 2 * v) _ _ _ (by have h8 : v < 4 := hv; have h8 : v < 4 := hv; omega), zup_i (i := 70 + 3 + 2 * v) (i' := 34 + 3 + 2 * v) _ _ _ (by have h8 : v < 4 := hv; have h8 : v < 4 := hv; omega)]) ?_
  refine zs_put9 (pc := 93) (f := 11) (F := fun x9 => [.int (x9 0), .int (x9 1), .int (x9 2), .int (x9 3), .int (x9 4), .ref ((va_up en (70 + 3 + 2 * v) (en (34 + 3 + 2 * v))) (70 + 3 + 2 * v)), .int (x9 6), .int (x9 7), .int (x9 8), .int (x9 9), .int (x9 10), .int (x9 11), .int (x9 12)]) B zid (by have h9 : v < 4 := hv; have := zTk.lt (Or.inr rfl) (k := 3 + 2 * v) (by omega); omega) (zt_vc_e (Or.inr rfl) hv) (fun x => zt_vc (Or.inr rfl) hv x _ _) cl5 inX5 tyX5 tyX5_ok nmX5 (by decide) wf_X5_58 rfl rfl rfl rfl (Nat.le_of_ble_eq_true rfl) (fun _ _ => rfl) dX5_copyFrom_93 ?_
  refine zv_aload_n (pc := 96) B 0 rfl dX5_copyFrom_96 ?_
  refine zv_aload_n (pc := 97) B 1 rfl dX5_copyFrom_97 ?_
  refine zv_get (pc := 98) (v := .int ((zup (zup (zup (zup (zup (zup (zup (zup (zup (zup (zup c (70 + 3 + 2 * v) 0 (c (34 + 3 + 2 * v) 0)) (70 + 3 + 2 * v) 1 (c (34 + 3 + 2 * v) 1)) (70 + 3 + 2 * v) 2 (c (34 + 3 + 2 * v) 2)) (70 + 3 + 2 * v) 3 (c (34 + 3 + 2 * v) 3)) (70 + 3 + 2 * v) 4 (c (34 + 3 + 2 * v) 4)) (70 + 3 + 2 * v) 6 (c (34 + 3 + 2 * v) 6)) (70 + 3 + 2 * v) 7 (c (34 + 3 + 2 * v) 7)) (70 + 3 + 2 * v) 8 (c (34 + 3 + 2 * v) 8)) (70 + 3 + 2 * v) 9 (c (34 + 3 + 2 * v) 9)) (70 + 3 + 2 * v) 10 (c (34 + 3 + 2 * v) 10)) (70 + 3 + 2 * v) 11 (c (34 + 3 + 2 * v) 11)) (34 + 3 + 2 * v) 12)) B (zat (by have h9 : v < 4 := hv; have := zTk.lt (Or.inl rfl) (k := 3 + 2 * v) (by omega); omega) (zt_vc (Or.inl rfl) hv _ _ _)) cl5 inX5 12 (by decide) wf_X5_61 rfl dX5_copyFrom_98 ?_
  refine zv_topi (y := c (34 + 3 + 2 * v) 12) (by rw [zup_i (i := 70 + 3 + 2 * v) (i' := 34 + 3 + 2 * v) _ _ _ (by have h8 : v < 4 := hv; have h8 : v < 4 := hv; omega), zup_i (i := 70 + 3 + 2 * v) (i' := 34 + 3 + 2 * v) _ _ _ (by have h8 : v < 4 := hv; have h8 : v < 4 := hv; omega), zup_i (i := 70 + 3 + 2 * v) (i' := 34 + 3 + 2 * v) _ _ _ (by have h8 : v < 4 := hv; have h8 : v < 4 := hv; omega), zup_i (i := 70 + 3 + 2 * v) (i' := 34 + 3 + 2 * v) _ _ _ (by have h8 : v < 4 := hv; have h8 : v < 4 := hv; omega), zup_i (i := 70 + 3 + 2 * v) (i' := 34 + 3 + 2 * v) _ _ _ (by have h8 : v < 4 := hv; have h8 : v < 4 := hv; omega), zup_i (i := 70 + 3 + 2 * v) (i' := 34 + 3 + 2 * v) _ _ _ (by have h8 : v < 4 := hv; have h8 : v < 4 := hv; omega), zup_i (i := 70 + 3 + 2 * v) (i' := 34 + 3 + 2 * v) _ _ _ (by have h8 : v < 4 := hv; have h8 : v < 4 := hv; omega), zup_i (i := 70 + 3 + 2 * v) (i' := 34 + 3 + 2 * v) _ _ _ (by have h8 : v < 4 := hv; have h8 : v < 4 := hv; omega), zup_i (i := 70 + 3 + 2 * v) (i' := 34 + 3 + 2 * v) _ _ _ (by have h8 : v < 4 := hv; have h8 : v < 4 := hv; omega), zup_i (i := 70 + 3 + 2 * v) (i' := 34 + 3 + 2 * v) _ _ _ (by have h8 : v < 4 := hv; have h8 : v < 4 := hv; omega), zup_i (i := 70 + 3 + 2 * v) (i' := 34 + 3 + 2 * v) _ _ _ (by have h8 : v < 4 := hv; have h8 : v < 4 := hv; omega)]) ?_
  refine zs_put9 (pc := 101) (f := 12) (F := fun x9 => [.int (x9 0), .int (x9 1), .int (x9 2), .int (x9 3), .int (x9 4), .ref ((va_up en (70 + 3 + 2 * v) (en (34 + 3 + 2 * v))) (70 + 3 + 2 * v)), .int (x9 6), .int (x9 7), .int (x9 8), .int (x9 9), .int (x9 10), .int (x9 11), .int (x9 12)]) B zid (by have h9 : v < 4 := hv; have := zTk.lt (Or.inr rfl) (k := 3 + 2 * v) (by omega); omega) (zt_vc_e (Or.inr rfl) hv) (fun x => zt_vc (Or.inr rfl) hv x _ _) cl5 inX5 tyX5 tyX5_ok nmX5 (by decide) wf_X5_61 rfl rfl rfl rfl (Nat.le_of_ble_eq_true rfl) (fun _ _ => rfl) dX5_copyFrom_101 ?_
  have hE1 : (zup (zup (zup (zup (zup (zup (zup (zup (zup (zup (zup (zup c (70 + 3 + 2 * v) 0 (c (34 + 3 + 2 * v) 0)) (70 + 3 + 2 * v) 1 (c (34 + 3 + 2 * v) 1)) (70 + 3 + 2 * v) 2 (c (34 + 3 + 2 * v) 2)) (70 + 3 + 2 * v) 3 (c (34 + 3 + 2 * v) 3)) (70 + 3 + 2 * v) 4 (c (34 + 3 + 2 * v) 4)) (70 + 3 + 2 * v) 6 (c (34 + 3 + 2 * v) 6)) (70 + 3 + 2 * v) 7 (c (34 + 3 + 2 * v) 7)) (70 + 3 + 2 * v) 8 (c (34 + 3 + 2 * v) 8)) (70 + 3 + 2 * v) 9 (c (34 + 3 + 2 * v) 9)) (70 + 3 + 2 * v) 10 (c (34 + 3 + 2 * v) 10)) (70 + 3 + 2 * v) 11 (c (34 + 3 + 2 * v) 11)) (70 + 3 + 2 * v) 12 (c (34 + 3 + 2 * v) 12), va_up en (70 + 3 + 2 * v) (en (34 + 3 + 2 * v)), va_up ea (70 + 3 + 2 * v) (ea (34 + 3 + 2 * v))) = m_X5_copyFrom c en ea v := (by unfold m_X5_copyFrom; rfl)
  exact zv_vret (pc := 104) B hr (fun H hP => ⟨(), ⟨rfl, Eq.subst (motive := fun z => zfr (70 + 3 + 2 * v) (70 + 3 + 2 * v + 1) (70 + 3 + 2 * v) (70 + 3 + 2 * v) c z.1) hE1 (zfr.up (zfr.up (zfr.up (zfr.up (zfr.up (zfr.up (zfr.up (zfr.up (zfr.up (zfr.up (zfr.up (zfr.up zfr.refl (by have h8 : v < 4 := hv; omega)) (by have h8 : v < 4 := hv; omega)) (by have h8 : v < 4 := hv; omega)) (by have h8 : v < 4 := hv; omega)) (by have h8 : v < 4 := hv; omega)) (by have h8 : v < 4 := hv; omega)) (by have h8 : v < 4 := hv; omega)) (by have h8 : v < 4 := hv; omega)) (by have h8 : v < 4 := hv; omega)) (by have h8 : v < 4 := hv; omega)) (by have h8 : v < 4 := hv; omega)) (by have h8 : v < 4 := hv; omega)), Eq.subst (motive := fun z => zG z.1) hE1 (zG.vup (zG.vup (zG.vup (zG.vup (zG.vup (zG.vup (zG.vup (zG.vup (zG.vup (zG.vup (zG.vup (zG.vup hg (Or.inr rfl) hv (show zn _ ≤ 1 from (zG.vb hg (Or.inl rfl) hv).1)) (Or.inr rfl) hv (show zn _ ≤ 1 from (zG.vb hg (Or.inl rfl) hv).2.1)) (Or.inr rfl) hv (show zn _ ≤ zT9 from zn_T _)) (Or.inr rfl) hv (show zn _ ≤ zT9 from zn_T _)) (Or.inr rfl) hv (show zn _ ≤ 65535 from (zG.vb hg (Or.inl rfl) hv).2.2)) (Or.inr rfl) hv (show zn _ ≤ zT9 from zn_T _)) (Or.inr rfl) hv (show zn _ ≤ zT9 from zn_T _)) (Or.inr rfl) hv (show zn _ ≤ zT9 from zn_T _)) (Or.inr rfl) hv (show zn _ ≤ zT9 from zn_T _)) (Or.inr rfl) hv (show zn _ ≤ zT9 from zn_T _)) (Or.inr rfl) hv (show zn _ ≤ zT9 from zn_T _)) (Or.inr rfl) hv (show zn _ ≤ zT9 from zn_T _))⟩, Eq.subst (motive := fun z => zH E b z.1 w z.2.1 z.2.2 H) hE1 hP⟩) (Nat.le_of_ble_eq_true rfl) (Nat.le_of_ble_eq_true rfl) dX5_copyFrom_104

def g1_X5_addSamples (c : Nat → Nat → Int32) (ea : Nat → Nat → Int32) (o v : Nat) (nd z : Nat)  : Nat → Nat → (Nat → Nat → Int32) → (Nat → (Nat → Nat → Int32) → (Nat → Nat → Int32)) → (Nat → Nat → Int32)
  | 0, i, c1, K => K i c1
  | n + 1, i, c1, K => if (c1 (o + 3 + 2 * v) 0) = 0 then (K i c1) else (g1_X5_addSamples c ea o v nd z n (i + 1) (m_X5_moveOn (zup c1 (o + 12 + nd) i ((c1 (o + 12 + nd) i) + (r_X6_partOf (((m_X5_waveValue c1 ea o v) * (m_X5_level c1 ea o v)) / 1000) (c1 (o + 3 + 2 * v) 3)))) ea o v) K)
def m_X5_addSamples (c : Nat → Nat → Int32) (ea : Nat → Nat → Int32) (o v : Nat) (nd z : Nat) : (Nat → Nat → Int32) := g1_X5_addSamples c ea o v nd z z 0 c (fun i c1 => c1)
set_option maxRecDepth 100000 in
set_option maxHeartbeats 4000000 in
theorem k_X5_addSamples (l : Launch) (E : zE) (b : Nat) (c : Nat → Nat → Int32) (w : Nat → Int64) (en : Nat → Nat) (ea : Nat → Nat → Int32) {o v : Nat} (ho : zTk o) (hv : v < 4) {nd : Nat} (hnd : nd < 10) {z : Nat} (hz : z ≤ 64) (hg : zG c) : zM l yX5_addSamples (.code yX5_addSamples cX5_addSamples 5 none :: zAll) (zRm 1 0 0) E b [.ref (b + (o + 3 + 2 * v)), .ref (b + (o + 12 + nd)), .int (nI z)] (zH E b c w en ea) (fun v9 (_ : Unit) => v9 = none ∧ zfr (o + 3) (o + 22) (o + 3) (o + 3) c (m_X5_addSamples c ea o v nd z) ∧ zG (m_X5_addSamples c ea o v nd z)) (fun _ => zH E b (m_X5_addSamples c ea o v nd z) w en ea) 0 0 := by
  refine zM_of "ToneGraph$Voice" (by decide) rfl rfl (Nat.le_of_ble_eq_true rfl) (L0 := [(0, .ref (b + (o + 3 + 2 * v))), (1, .ref (b + (o + 12 + nd))), (2, .int (nI z))]) rfl ?_
  intro p e s m args below meth c9 B hr hname
  have ho9 : o = 34 ∨ o = 70 := ho
  refine zv_iconst (pc := 0) (v := 0) B rfl dX5_addSamples_0 ?_
  refine zv_istore_n (pc := 1) (L' := [(3, .int 0), (0, .ref (b + (o + 3 + 2 * v))), (1, .ref (b + (o + 12 + nd))), (2, .int (nI z))]) B (by decide) rfl dX5_addSamples_1 ?_
  have loop1 : ∀ (K : Nat → (Nat → Nat → Int32) → (Nat → Nat → Int32)) (n : Nat) (i : Nat) (c1 : Nat → Nat → Int32), zfr (o + 3) (o + 22) (o + 3) (o + 3) c c1 → zG c1 → i + n = z → g1_X5_addSamples c ea o v nd z n i c1 K = m_X5_addSamples c ea o v nd z → (∀ (i : Nat) (c1 : Nat → Nat → Int32), zfr (o + 3) (o + 22) (o + 3) (o + 3) c c1 → zG c1 → i ≤ z → K i c1 = m_X5_addSamples c ea o v nd z → zV p l e (zRm 1 0 0) s m args below meth c9 (MQ below (zQ b (fun v9 (_ : Unit) => v9 = none ∧ zfr (o + 3) (o + 22) (o + 3) (o + 3) c (m_X5_addSamples c ea o v nd z) ∧ zG (m_X5_addSamples c ea o v nd z)) (fun _ => zH E b (m_X5_addSamples c ea o v nd z) w en ea)) args s 0 0 (zA b)) 5 b (zH E b c1 w en ea) 54 [(0, .ref (b + (o + 3 + 2 * v))), (1, .ref (b + (o + 12 + nd))), (2, .int (nI z)), (3, .int (nI i))] [] 0 0) → zV p l e (zRm 1 0 0) s m args below meth c9 (MQ below (zQ b (fun v9 (_ : Unit) => v9 = none ∧ zfr (o + 3) (o + 22) (o + 3) (o + 3) c (m_X5_addSamples c ea o v nd z) ∧ zG (m_X5_addSamples c ea o v nd z)) (fun _ => zH E b (m_X5_addSamples c ea o v nd z) w en ea)) args s 0 0 (zA b)) 5 b (zH E b c1 w en ea) 2 [(0, .ref (b + (o + 3 + 2 * v))), (1, .ref (b + (o + 12 + nd))), (2, .int (nI z)), (3, .int (nI i))] [] 0 0 := by
    intro K n
    induction n with
    | zero =>
      intro i c1 hF1 hg1 hi hE901 hK
      have hzz := hz
      have hvv := hv
      have hnn := hnd
      refine zv_iload_n (pc := 2) B 3 rfl dX5_addSamples_2 ?_
      refine zv_iload_n (pc := 3) B 2 rfl dX5_addSamples_3 ?_
      refine zv_icmp_ge (pc := 4) (tgt := 54) B dX5_addSamples_4 rfl (fun _ => ?_) (fun h9 => absurd ((z_le (a := z) (b := i) rfl rfl (by omega) (by omega)).mpr (by omega)) h9)
      exact hK i c1 hF1 hg1 (by omega) (Eq.trans (by rw [g1_X5_addSamples]) hE901)
    | succ n ih =>
      intro i c1 hF1 hg1 hi hE901 hK
      have hzz := hz
      have hvv := hv
      have hnn := hnd
      refine zv_iload_n (pc := 2) B 3 rfl dX5_addSamples_2 ?_
      refine zv_iload_n (pc := 3) B 2 rfl dX5_addSamples_3 ?_
      refine zv_icmp_ge (pc := 4) (tgt := 54) B dX5_addSamples_4 rfl (fun h9 => absurd h9 (fun q9 => absurd ((z_le (a := z) (b := i) rfl rfl (by omega) (by omega)).mp q9) (by omega))) (fun _ => ?_)
      refine zv_aload_n (pc := 7) B 0 rfl dX5_addSamples_7 ?_
      refine zv_get (pc := 8) (v := .int (c1 (o + 3 + 2 * v) 0)) B (zat (by have h9 : v < 4 := hv; have := zTk.lt ho (k := 3 + 2 * v) (by omega); omega) (zt_vc ho hv _ _ _)) cl5 inX5 0 (by decide) wf_X5_24 rfl dX5_addSamples_8 ?_
      refine zv_if_eq (pc := 11) (tgt := 54) B dX5_addSamples_11 rfl (fun h3 => ?_) (fun h3 => ?_)
      · exact hK i c1 hF1 hg1 (by omega) (Eq.trans (by rw [g1_X5_addSamples, if_pos h3]) hE901)
      · refine zv_aload_n (pc := 14) B 0 rfl dX5_addSamples_14 ?_
        refine zv_callV (pc := 15) (As := []) (rest := []) B (k_X5_waveValue l E b _ _ _ _ ho hv) (zcwV 0 0 B wm_X5_70 wi_X5_waveValue wv_X5_waveValue wn_X5 wcode_X5_waveValue rfl (by decide +kernel) ⟨(Nat.le_of_ble_eq_true rfl), (Nat.le_of_ble_eq_true rfl)⟩) rfl (zrecv B (zat (by have h9 : v < 4 := hv; have := zTk.lt ho (k := 3 + 2 * v) (by omega); omega) (zt_vc ho hv _ _ _)) cl5) zid rfl (Nat.le_of_ble_eq_true rfl) dX5_addSamples_15 ⟨(Nat.le_of_ble_eq_true rfl), (Nat.le_of_ble_eq_true rfl)⟩ (fun v9 u9 hv9 => ?_)
        subst hv9
        refine zv_st (st' := [.int (m_X5_waveValue c1 ea o v)]) rfl ?_
        refine zv_aload_n (pc := 18) B 0 rfl dX5_addSamples_18 ?_
        refine zv_callV (pc := 19) (As := []) (rest := [.int (m_X5_waveValue c1 ea o v)]) B (k_X5_level l E b _ _ _ _ ho hv) (zcwV 0 0 B wm_X5_54 wi_X5_level wv_X5_level wn_X5 wcode_X5_level rfl (by decide +kernel) ⟨(Nat.le_of_ble_eq_true rfl), (Nat.le_of_ble_eq_true rfl)⟩) rfl (zrecv B (zat (by have h9 : v < 4 := hv; have := zTk.lt ho (k := 3 + 2 * v) (by omega); omega) (zt_vc ho hv _ _ _)) cl5) zid rfl (Nat.le_of_ble_eq_true rfl) dX5_addSamples_19 ⟨(Nat.le_of_ble_eq_true rfl), (Nat.le_of_ble_eq_true rfl)⟩ (fun v9 u9 hv9 => ?_)
        subst hv9
        refine zv_st (st' := [.int (m_X5_level c1 ea o v), .int (m_X5_waveValue c1 ea o v)]) rfl ?_
        refine zv_imul (pc := 22) B dX5_addSamples_22 ?_
        refine zv_sipush (pc := 23) (v := 1000) B rfl dX5_addSamples_23 ?_
        refine zv_idiv (pc := 26) B (by decide) dX5_addSamples_26 ?_
        refine zv_istore (pc := 27) (L' := [(4, .int (((m_X5_waveValue c1 ea o v) * (m_X5_level c1 ea o v)) / 1000)), (0, .ref (b + (o + 3 + 2 * v))), (1, .ref (b + (o + 12 + nd))), (2, .int (nI z)), (3, .int (nI i))]) B (by decide) rfl dX5_addSamples_27 ?_
        refine zv_aload_n (pc := 29) B 2 rfl dX5_addSamples_29 ?_
        refine zv_iload_n (pc := 30) B 4 rfl dX5_addSamples_30 ?_
        refine zv_dup2 (pc := 31) B rfl rfl dX5_addSamples_31 ?_
        refine zv_iald (pc := 32) (jj := i) B (zat (by have h9 : nd < 10 := hnd; have := zTk.lt ho (k := 12 + nd) (by omega); omega) (zt_br ho hnd _ _ _)) rfl (by omega) (by decide) dX5_addSamples_32 ?_
        refine zv_iload (pc := 33) B 0 rfl dX5_addSamples_33 ?_
        refine zv_aload_n (pc := 35) B 1 rfl dX5_addSamples_35 ?_
        refine zv_get (pc := 36) (v := .int (c1 (o + 3 + 2 * v) 3)) B (zat (by have h9 : v < 4 := hv; have := zTk.lt ho (k := 3 + 2 * v) (by omega); omega) (zt_vc ho hv _ _ _)) cl5 inX5 3 (by decide) wf_X5_35 rfl dX5_addSamples_36 ?_
        refine zv_callSN (pc := 39) (As := [.int (((m_X5_waveValue c1 ea o v) * (m_X5_level c1 ea o v)) / 1000), .int (c1 (o + 3 + 2 * v) 3)]) (rest := [.int (c1 (o + 12 + nd) i), .int (nI i), .ref (b + (o + 12 + nd))]) B (k_X6_partOf l E b (((m_X5_waveValue c1 ea o v) * (m_X5_level c1 ea o v)) / 1000) (c1 (o + 3 + 2 * v) 3)) ⟨zcnB 2 0 5 B rfl wn_X6 wcode_X6_partOf (by decide +kernel) ⟨(Nat.le_of_ble_eq_true rfl), (Nat.le_of_ble_eq_true rfl)⟩, B.at ws_X6_partOf⟩ rfl zid rfl (Nat.le_of_ble_eq_true rfl) dX5_addSamples_39 ⟨(Nat.le_of_ble_eq_true rfl), (Nat.le_of_ble_eq_true rfl)⟩ (fun v9 u9 hv9 => ?_)
        subst hv9
        refine zv_st (st' := [.int (r_X6_partOf (((m_X5_waveValue c1 ea o v) * (m_X5_level c1 ea o v)) / 1000) (c1 (o + 3 + 2 * v) 3)), .int (c1 (o + 12 + nd) i), .int (nI i), .ref (b + (o + 12 + nd))]) rfl ?_
        refine zv_iadd (pc := 42) B dX5_addSamples_42 ?_
        refine zs_iast (pc := 43) (jj := i) B zid (by have h9 : nd < 10 := hnd; have := zTk.lt ho (k := 12 + nd) (by omega); omega) (zt_br_e ho hnd) (fun x w e => zt_br ho hnd x w e) rfl (by omega) (by decide) dX5_addSamples_43 ?_
        refine zv_aload_n (pc := 44) B 1 rfl dX5_addSamples_44 ?_
        refine zv_callV (pc := 45) (As := []) (rest := []) B (k_X5_moveOn l E b _ _ _ _ ho hv (zG.free hg1 (by have h8 : nd < 10 := hnd; unfold zfree; omega))) (zcwV 0 0 B wm_X5_77 wi_X5_moveOn wv_X5_moveOn wn_X5 wcode_X5_moveOn rfl (by decide +kernel) ⟨(Nat.le_of_ble_eq_true rfl), (Nat.le_of_ble_eq_true rfl)⟩) rfl (zrecv B (zat (by have h9 : v < 4 := hv; have := zTk.lt ho (k := 3 + 2 * v) (by omega); omega) (zt_vc ho hv _ _ _)) cl5) zid rfl (Nat.le_of_ble_eq_true rfl) dX5_addSamples_45 ⟨(Nat.le_of_ble_eq_true rfl), (Nat.le_of_ble_eq_true rfl)⟩ (fun v9 u9 hv9 => ?_)
        obtain ⟨rfl, hF2004, hg2004⟩ := hv9
        refine zv_st (st' := []) rfl ?_
        refine zv_iinc (pc := 48) (v := nI (i + 1)) (L' := [(3, .int (nI (i + 1))), (4, .int (((m_X5_waveValue c1 ea o v) * (m_X5_level c1 ea o v)) / 1000)), (0, .ref (b + (o + 3 + 2 * v))), (1, .ref (b + (o + 12 + nd))), (2, .int (nI z))]) B 4 rfl (nI_1 _) (by decide) rfl dX5_addSamples_48 ?_
        refine zv_goto (pc := 51) (tgt := 2) B rfl dX5_addSamples_51 ?_
        refine zv_loc (L' := [(0, .ref (b + (o + 3 + 2 * v))), (1, .ref (b + (o + 12 + nd))), (2, .int (nI z)), (3, .int (nI (i + 1)))]) [2, 3, 4, 0] rfl ?_
        exact ih (i + 1) (m_X5_moveOn (zup c1 (o + 12 + nd) i ((c1 (o + 12 + nd) i) + (r_X6_partOf (((m_X5_waveValue c1 ea o v) * (m_X5_level c1 ea o v)) / 1000) (c1 (o + 3 + 2 * v) 3)))) ea o v) (zfr.call (zfr.up hF1 (by have h8 : nd < 10 := hnd; omega)) hF2004 (by have h8 : v < 4 := hv; omega)) hg2004 (by omega) (Eq.trans (by rw [g1_X5_addSamples, if_neg h3]) hE901) hK
  refine zv_loc (L' := [(0, .ref (b + (o + 3 + 2 * v))), (1, .ref (b + (o + 12 + nd))), (2, .int (nI z)), (3, .int 0)]) [1, 2, 3, 0] rfl ?_
  refine loop1 (fun i c1 => c1) z 0 c zfr.refl hg (by omega) (by unfold m_X5_addSamples; rfl) ?_
  intro i c1 hF1 hg1 hx
  intro (hE951 : c1 = m_X5_addSamples c ea o v nd z)
  have hE5 : c1 = m_X5_addSamples c ea o v nd z := hE951
  exact zv_vret (pc := 54) B hr (fun H hP => ⟨(), ⟨rfl, Eq.subst (motive := fun z => zfr (o + 3) (o + 22) (o + 3) (o + 3) c z) hE5 hF1, Eq.subst (motive := fun z => zG z) hE5 hg1⟩, Eq.subst (motive := fun z => zH E b z w en ea H) hE5 hP⟩) (Nat.le_of_ble_eq_true rfl) (Nat.le_of_ble_eq_true rfl) dX5_addSamples_54

def g1_X1_lowestFree (c : Nat → Nat → Int32) (o : Nat)  : Nat → Nat → (Nat → Int32) → Int32
  | 0, i, K => K i
  | n + 1, i, K => if (c (o + 3 + 2 * i) 0) = 0 then (nI i) else (g1_X1_lowestFree c o n (i + 1) K)
def m_X1_lowestFree (c : Nat → Nat → Int32) (o : Nat) : Int32 := g1_X1_lowestFree c o 4 0 (fun i => (-1))
set_option maxRecDepth 100000 in
set_option maxHeartbeats 4000000 in
theorem k_X1_lowestFree (l : Launch) (E : zE) (b : Nat) (c : Nat → Nat → Int32) (w : Nat → Int64) (en : Nat → Nat) (ea : Nat → Nat → Int32) {o : Nat} (ho : zTk o) : zM l yX1_lowestFree (.code yX1_lowestFree cX1_lowestFree 2 (some .int) :: zAll) (zRm 0 0 0) E b [.ref (b + (o + 1))] (zH E b c w en ea) (fun v9 (_ : Unit) => v9 = some (.int (m_X1_lowestFree c o))) (fun _ => zH E b c w en ea) 0 0 := by
  refine zM_of "ToneGraph$Choir" (by decide) rfl rfl (Nat.le_of_ble_eq_true rfl) (L0 := [(0, .ref (b + (o + 1)))]) rfl ?_
  intro p e s m args below meth c9 B hr hname
  have ho9 : o = 34 ∨ o = 70 := ho
  refine zv_iconst (pc := 0) (v := 0) B rfl dX1_lowestFree_0 ?_
  refine zv_istore_n (pc := 1) (L' := [(1, .int 0), (0, .ref (b + (o + 1)))]) B (by decide) rfl dX1_lowestFree_1 ?_
  have loop1 : ∀ (K : Nat → Int32) (n : Nat) (i : Nat), i + n = 4 → g1_X1_lowestFree c o n i K = m_X1_lowestFree c o → (∀ (i : Nat), i ≤ 4 → K i = m_X1_lowestFree c o → zV p l e (zRm 0 0 0) s m args below meth c9 (MQ below (zQ b (fun v9 (_ : Unit) => v9 = some (.int (m_X1_lowestFree c o))) (fun _ => zH E b c w en ea)) args s 0 0 (zA b)) 2 b (zH E b c w en ea) 27 [(0, .ref (b + (o + 1))), (1, .int (nI i))] [] 0 0) → zV p l e (zRm 0 0 0) s m args below meth c9 (MQ below (zQ b (fun v9 (_ : Unit) => v9 = some (.int (m_X1_lowestFree c o))) (fun _ => zH E b c w en ea)) args s 0 0 (zA b)) 2 b (zH E b c w en ea) 2 [(0, .ref (b + (o + 1))), (1, .int (nI i))] [] 0 0 := by
    intro K n
    induction n with
    | zero =>
      intro i hi hE901 hK
      refine zv_iload_n (pc := 2) B 1 rfl dX1_lowestFree_2 ?_
      refine zv_iconst (pc := 3) (v := 4) B rfl dX1_lowestFree_3 ?_
      refine zv_icmp_ge (pc := 4) (tgt := 27) B dX1_lowestFree_4 rfl (fun _ => ?_) (fun h9 => absurd ((z_le (a := 4) (b := i) rfl rfl (by omega) (by omega)).mpr (by omega)) h9)
      exact hK i  (by omega) (Eq.trans (by rw [g1_X1_lowestFree]) hE901)
    | succ n ih =>
      intro i hi hE901 hK
      refine zv_iload_n (pc := 2) B 1 rfl dX1_lowestFree_2 ?_
      refine zv_iconst (pc := 3) (v := 4) B rfl dX1_lowestFree_3 ?_
      refine zv_icmp_ge (pc := 4) (tgt := 27) B dX1_lowestFree_4 rfl (fun h9 => absurd h9 (fun q9 => absurd ((z_le (a := 4) (b := i) rfl rfl (by omega) (by omega)).mp q9) (by omega))) (fun _ => ?_)
      refine zv_aload_n (pc := 7) B 0 rfl dX1_lowestFree_7 ?_
      refine zv_get (pc := 8) (v := .ref (b + (o + 2))) B (zat (ho.lt (by decide)) (zt_chr ho _ _ _)) cl1 inX1 0 (by decide) wf_X1_11 rfl dX1_lowestFree_8 ?_
      refine zv_iload_n (pc := 11) B 1 rfl dX1_lowestFree_11 ?_
      refine zv_vald (pc := 12) (jj := i) (q1 := b + (o + 3 + 2 * i)) B (zat (ho.lt (by decide)) (zt_vcs ho _ _ _)) rfl (by omega) (by decide) (if_pos (by omega)) dX1_lowestFree_12 ?_
      refine zv_get (pc := 13) (v := .int (c (o + 3 + 2 * i) 0)) B (zat (by have h9 : i < 4 := (by omega); have := zTk.lt ho (k := 3 + 2 * i) (by omega); omega) (zt_vc ho (by omega) _ _ _)) cl5 inX5 0 (by decide) wf_X1_40 rfl dX1_lowestFree_13 ?_
      refine zv_if_ne (pc := 16) (tgt := 21) B dX1_lowestFree_16 rfl (fun h3 => ?_) (fun h3 => ?_)
      · refine zv_iinc (pc := 21) (v := nI (i + 1)) (L' := [(1, .int (nI (i + 1))), (0, .ref (b + (o + 1)))]) B 1 rfl (nI_1 _) (by decide) rfl dX1_lowestFree_21 ?_
        refine zv_goto (pc := 24) (tgt := 2) B rfl dX1_lowestFree_24 ?_
        refine zv_loc (L' := [(0, .ref (b + (o + 1))), (1, .int (nI (i + 1)))]) [1, 0] rfl ?_
        exact ih (i + 1)  (by omega) (Eq.trans (by rw [g1_X1_lowestFree, if_neg h3]) hE901) hK
      · refine zv_iload_n (pc := 19) B 1 rfl dX1_lowestFree_19 ?_
        have hE4 : nI i = m_X1_lowestFree c o := (Eq.trans (by rw [g1_X1_lowestFree, if_pos h3]) hE901)
        exact zv_iret (pc := 20) B (nI i) hr (fun H hP => ⟨(), (congrArg (fun z => some (Value.int z)) hE4), hP⟩) (Nat.le_of_ble_eq_true rfl) (Nat.le_of_ble_eq_true rfl) dX1_lowestFree_20
  refine zv_loc (L' := [(0, .ref (b + (o + 1))), (1, .int 0)]) [1, 0] rfl ?_
  refine loop1 (fun i => (-1)) 4 0  (by omega) (by unfold m_X1_lowestFree; rfl) ?_
  intro i hx
  intro (hE951 : (-1) = m_X1_lowestFree c o)
  refine zv_iconst (pc := 27) (v := (-1)) B rfl dX1_lowestFree_27 ?_
  have hE5 : (-1) = m_X1_lowestFree c o := hE951
  exact zv_iret (pc := 28) B ((-1)) hr (fun H hP => ⟨(), (congrArg (fun z => some (Value.int z)) hE5), hP⟩) (Nat.le_of_ble_eq_true rfl) (Nat.le_of_ble_eq_true rfl) dX1_lowestFree_28

theorem lf_lt (c : Nat → Nat → Int32) (o : Nat) : m_X1_lowestFree c o = -1 ∨ zn (m_X1_lowestFree c o) < 4 := by
  unfold m_X1_lowestFree
  simp only [g1_X1_lowestFree]
  repeat' split
  all_goals decide

def g1_X1_mostStealable (c : Nat → Nat → Int32) (ea : Nat → Nat → Int32) (o : Nat)  : Nat → Nat → Nat → (Nat → Nat → Int32) → Int32
  | 0, i, x, K => K i x
  | n + 1, i, x, K => if (m_X5_isStolenBefore c ea o i x) = 0 then (g1_X1_mostStealable c ea o n (i + 1) x K) else (g1_X1_mostStealable c ea o n (i + 1) i K)
def m_X1_mostStealable (c : Nat → Nat → Int32) (ea : Nat → Nat → Int32) (o : Nat) : Int32 := g1_X1_mostStealable c ea o 3 1 0 (fun i x => nI x)
set_option maxRecDepth 100000 in
set_option maxHeartbeats 4000000 in
theorem k_X1_mostStealable (l : Launch) (E : zE) (b : Nat) (c : Nat → Nat → Int32) (w : Nat → Int64) (en : Nat → Nat) (ea : Nat → Nat → Int32) {o : Nat} (ho : zTk o) (hg : zG c) : zM l yX1_mostStealable (.code yX1_mostStealable cX1_mostStealable 3 (some .int) :: zAll) (zRm 1 0 0) E b [.ref (b + (o + 1))] (zH E b c w en ea) (fun v9 (_ : Unit) => v9 = some (.int (m_X1_mostStealable c ea o))) (fun _ => zH E b c w en ea) 0 0 := by
  refine zM_of "ToneGraph$Choir" (by decide) rfl rfl (Nat.le_of_ble_eq_true rfl) (L0 := [(0, .ref (b + (o + 1)))]) rfl ?_
  intro p e s m args below meth c9 B hr hname
  have ho9 : o = 34 ∨ o = 70 := ho
  refine zv_iconst (pc := 0) (v := 0) B rfl dX1_mostStealable_0 ?_
  refine zv_istore_n (pc := 1) (L' := [(1, .int 0), (0, .ref (b + (o + 1)))]) B (by decide) rfl dX1_mostStealable_1 ?_
  refine zv_iconst (pc := 2) (v := 1) B rfl dX1_mostStealable_2 ?_
  refine zv_istore_n (pc := 3) (L' := [(2, .int 1), (1, .int 0), (0, .ref (b + (o + 1)))]) B (by decide) rfl dX1_mostStealable_3 ?_
  have loop1 : ∀ (K : Nat → Nat → Int32) (n : Nat) (i : Nat) (x : Nat), x < 4 → i + n = 4 → g1_X1_mostStealable c ea o n i x K = m_X1_mostStealable c ea o → (∀ (i : Nat) (x : Nat), x < 4 → i ≤ 4 → K i x = m_X1_mostStealable c ea o → zV p l e (zRm 1 0 0) s m args below meth c9 (MQ below (zQ b (fun v9 (_ : Unit) => v9 = some (.int (m_X1_mostStealable c ea o))) (fun _ => zH E b c w en ea)) args s 0 0 (zA b)) 3 b (zH E b c w en ea) 35 [(0, .ref (b + (o + 1))), (2, .int (nI i)), (1, .int (nI x))] [] 0 0) → zV p l e (zRm 1 0 0) s m args below meth c9 (MQ below (zQ b (fun v9 (_ : Unit) => v9 = some (.int (m_X1_mostStealable c ea o))) (fun _ => zH E b c w en ea)) args s 0 0 (zA b)) 3 b (zH E b c w en ea) 4 [(0, .ref (b + (o + 1))), (2, .int (nI i)), (1, .int (nI x))] [] 0 0 := by
    intro K n
    induction n with
    | zero =>
      intro i x hx hi hE901 hK
      refine zv_iload_n (pc := 4) B 1 rfl dX1_mostStealable_4 ?_
      refine zv_iconst (pc := 5) (v := 4) B rfl dX1_mostStealable_5 ?_
      refine zv_icmp_ge (pc := 6) (tgt := 35) B dX1_mostStealable_6 rfl (fun _ => ?_) (fun h9 => absurd ((z_le (a := 4) (b := i) rfl rfl (by omega) (by omega)).mpr (by omega)) h9)
      exact hK i x (by omega) (by omega) (Eq.trans (by rw [g1_X1_mostStealable]) hE901)
    | succ n ih =>
      intro i x hx hi hE901 hK
      refine zv_iload_n (pc := 4) B 1 rfl dX1_mostStealable_4 ?_
      refine zv_iconst (pc := 5) (v := 4) B rfl dX1_mostStealable_5 ?_
      refine zv_icmp_ge (pc := 6) (tgt := 35) B dX1_mostStealable_6 rfl (fun h9 => absurd h9 (fun q9 => absurd ((z_le (a := 4) (b := i) rfl rfl (by omega) (by omega)).mp q9) (by omega))) (fun _ => ?_)
      refine zv_aload_n (pc := 9) B 0 rfl dX1_mostStealable_9 ?_
      refine zv_get (pc := 10) (v := .ref (b + (o + 2))) B (zat (ho.lt (by decide)) (zt_chr ho _ _ _)) cl1 inX1 0 (by decide) wf_X1_11 rfl dX1_mostStealable_10 ?_
      refine zv_iload_n (pc := 13) B 1 rfl dX1_mostStealable_13 ?_
      refine zv_vald (pc := 14) (jj := i) (q1 := b + (o + 3 + 2 * i)) B (zat (ho.lt (by decide)) (zt_vcs ho _ _ _)) rfl (by omega) (by decide) (if_pos (by omega)) dX1_mostStealable_14 ?_
      refine zv_aload_n (pc := 15) B 0 rfl dX1_mostStealable_15 ?_
      refine zv_get (pc := 16) (v := .ref (b + (o + 2))) B (zat (ho.lt (by decide)) (zt_chr ho _ _ _)) cl1 inX1 0 (by decide) wf_X1_11 rfl dX1_mostStealable_16 ?_
      refine zv_iload_n (pc := 19) B 2 rfl dX1_mostStealable_19 ?_
      refine zv_vald (pc := 20) (jj := x) (q1 := b + (o + 3 + 2 * x)) B (zat (ho.lt (by decide)) (zt_vcs ho _ _ _)) rfl hx (by decide) (if_pos hx) dX1_mostStealable_20 ?_
      refine zv_callV (pc := 21) (As := [.ref (b + (o + 3 + 2 * x))]) (rest := []) B (k_X5_isStolenBefore l E b _ _ _ _ ho (by omega) hx hg) (zcwV 1 0 B wm_X1_44 wi_X5_isStolenBefore wv_X5_isStolenBefore wn_X5 wcode_X5_isStolenBefore rfl (by decide +kernel) ⟨(Nat.le_of_ble_eq_true rfl), (Nat.le_of_ble_eq_true rfl)⟩) rfl (zrecv B (zat (by have h9 : i < 4 := (by omega); have := zTk.lt ho (k := 3 + 2 * i) (by omega); omega) (zt_vc ho (by omega) _ _ _)) cl5) zid rfl (Nat.le_of_ble_eq_true rfl) dX1_mostStealable_21 ⟨(Nat.le_of_ble_eq_true rfl), (Nat.le_of_ble_eq_true rfl)⟩ (fun v9 u9 hv9 => ?_)
      subst hv9
      refine zv_st (st' := [.int (m_X5_isStolenBefore c ea o i x)]) rfl ?_
      refine zv_if_eq (pc := 24) (tgt := 29) B dX1_mostStealable_24 rfl (fun h3 => ?_) (fun h3 => ?_)
      · refine zv_iinc (pc := 29) (v := nI (i + 1)) (L' := [(2, .int (nI (i + 1))), (0, .ref (b + (o + 1))), (1, .int (nI x))]) B 1 rfl (nI_1 _) (by decide) rfl dX1_mostStealable_29 ?_
        refine zv_goto (pc := 32) (tgt := 4) B rfl dX1_mostStealable_32 ?_
        refine zv_loc (L' := [(0, .ref (b + (o + 1))), (2, .int (nI (i + 1))), (1, .int (nI x))]) [1, 0, 2] rfl ?_
        exact ih (i + 1) x (by omega) (by omega) (Eq.trans (by rw [g1_X1_mostStealable, if_pos h3]) hE901) hK
      · refine zv_iload_n (pc := 27) B 1 rfl dX1_mostStealable_27 ?_
        refine zv_istore_n (pc := 28) (L' := [(1, .int (nI i)), (0, .ref (b + (o + 1))), (2, .int (nI i))]) B (by decide) rfl dX1_mostStealable_28 ?_
        refine zv_iinc (pc := 29) (v := nI (i + 1)) (L' := [(2, .int (nI (i + 1))), (1, .int (nI i)), (0, .ref (b + (o + 1)))]) B 2 rfl (nI_1 _) (by decide) rfl dX1_mostStealable_29 ?_
        refine zv_goto (pc := 32) (tgt := 4) B rfl dX1_mostStealable_32 ?_
        refine zv_loc (L' := [(0, .ref (b + (o + 1))), (2, .int (nI (i + 1))), (1, .int (nI i))]) [2, 0, 1] rfl ?_
        exact ih (i + 1) i (by omega) (by omega) (Eq.trans (by rw [g1_X1_mostStealable, if_neg h3]) hE901) hK
  refine zv_loc (L' := [(0, .ref (b + (o + 1))), (2, .int 1), (1, .int 0)]) [2, 0, 1] rfl ?_
  refine loop1 (fun i x => nI x) 3 1 0 (by omega) (by omega) (by unfold m_X1_mostStealable; rfl) ?_
  intro i x hx hx
  intro (hE951 : nI x = m_X1_mostStealable c ea o)
  refine zv_iload_n (pc := 35) B 2 rfl dX1_mostStealable_35 ?_
  have hE4 : nI x = m_X1_mostStealable c ea o := hE951
  exact zv_iret (pc := 36) B (nI x) hr (fun H hP => ⟨(), (congrArg (fun z => some (Value.int z)) hE4), hP⟩) (Nat.le_of_ble_eq_true rfl) (Nat.le_of_ble_eq_true rfl) dX1_mostStealable_36

theorem ms_lt (c : Nat → Nat → Int32) (ea : Nat → Nat → Int32) (o : Nat) : zn (m_X1_mostStealable c ea o) < 4 := by
  unfold m_X1_mostStealable
  simp only [g1_X1_mostStealable]
  repeat' split
  all_goals decide

def g1_X1_firstHeld (c : Nat → Nat → Int32) (ea : Nat → Nat → Int32) (o : Nat) (y : Int32)  : Nat → Nat → Int32 → (Nat → Int32 → Int32) → Int32
  | 0, i, x, K => K i x
  | n + 1, i, x, K => if (m_X5_holds c ea o i y) = 0 then (g1_X1_firstHeld c ea o y n (i + 1) x K) else (if x = (-1) then (g1_X1_firstHeld c ea o y n (i + 1) (nI i) K) else (if (c (o + 3 + 2 * (zn x)) 8) ≤ (c (o + 3 + 2 * i) 8) then (g1_X1_firstHeld c ea o y n (i + 1) x K) else (g1_X1_firstHeld c ea o y n (i + 1) (nI i) K)))
def m_X1_firstHeld (c : Nat → Nat → Int32) (ea : Nat → Nat → Int32) (o : Nat) (y : Int32) : Int32 := g1_X1_firstHeld c ea o y 4 0 (-1) (fun i x => x)
set_option maxRecDepth 100000 in
set_option maxHeartbeats 4000000 in
theorem k_X1_firstHeld (l : Launch) (E : zE) (b : Nat) (c : Nat → Nat → Int32) (w : Nat → Int64) (en : Nat → Nat) (ea : Nat → Nat → Int32) {o : Nat} (ho : zTk o) (y : Int32) : zM l yX1_firstHeld (.code yX1_firstHeld cX1_firstHeld 4 (some .int) :: zAll) (zRm 1 0 0) E b [.ref (b + (o + 1)), .int y] (zH E b c w en ea) (fun v9 (_ : Unit) => v9 = some (.int (m_X1_firstHeld c ea o y))) (fun _ => zH E b c w en ea) 0 0 := by
  refine zM_of "ToneGraph$Choir" (by decide) rfl rfl (Nat.le_of_ble_eq_true rfl) (L0 := [(0, .ref (b + (o + 1))), (1, .int y)]) rfl ?_
  intro p e s m args below meth c9 B hr hname
  have ho9 : o = 34 ∨ o = 70 := ho
  refine zv_iconst (pc := 0) (v := (-1)) B rfl dX1_firstHeld_0 ?_
  refine zv_istore_n (pc := 1) (L' := [(2, .int (-1)), (0, .ref (b + (o + 1))), (1, .int y)]) B (by decide) rfl dX1_firstHeld_1 ?_
  refine zv_iconst (pc := 2) (v := 0) B rfl dX1_firstHeld_2 ?_
  refine zv_istore_n (pc := 3) (L' := [(3, .int 0), (2, .int (-1)), (0, .ref (b + (o + 1))), (1, .int y)]) B (by decide) rfl dX1_firstHeld_3 ?_
  have loop1 : ∀ (K : Nat → Int32 → Int32) (n : Nat) (i : Nat) (x : Int32), (x = -1 ∨ zn x < 4) → i + n = 4 → g1_X1_firstHeld c ea o y n i x K = m_X1_firstHeld c ea o y → (∀ (i : Nat) (x : Int32), (x = -1 ∨ zn x < 4) → i ≤ 4 → K i x = m_X1_firstHeld c ea o y → zV p l e (zRm 1 0 0) s m args below meth c9 (MQ below (zQ b (fun v9 (_ : Unit) => v9 = some (.int (m_X1_firstHeld c ea o y))) (fun _ => zH E b c w en ea)) args s 0 0 (zA b)) 4 b (zH E b c w en ea) 56 [(0, .ref (b + (o + 1))), (1, .int y), (3, .int (nI i)), (2, .int x)] [] 0 0) → zV p l e (zRm 1 0 0) s m args below meth c9 (MQ below (zQ b (fun v9 (_ : Unit) => v9 = some (.int (m_X1_firstHeld c ea o y))) (fun _ => zH E b c w en ea)) args s 0 0 (zA b)) 4 b (zH E b c w en ea) 4 [(0, .ref (b + (o + 1))), (1, .int y), (3, .int (nI i)), (2, .int x)] [] 0 0 := by
    intro K n
    induction n with
    | zero =>
      intro i x hx hi hE901 hK
      refine zv_iload_n (pc := 4) B 2 rfl dX1_firstHeld_4 ?_
      refine zv_iconst (pc := 5) (v := 4) B rfl dX1_firstHeld_5 ?_
      refine zv_icmp_ge (pc := 6) (tgt := 56) B dX1_firstHeld_6 rfl (fun _ => ?_) (fun h9 => absurd ((z_le (a := 4) (b := i) rfl rfl (by omega) (by omega)).mpr (by omega)) h9)
      exact hK i x hx (by omega) (Eq.trans (by rw [g1_X1_firstHeld]) hE901)
    | succ n ih =>
      intro i x hx hi hE901 hK
      refine zv_iload_n (pc := 4) B 2 rfl dX1_firstHeld_4 ?_
      refine zv_iconst (pc := 5) (v := 4) B rfl dX1_firstHeld_5 ?_
      refine zv_icmp_ge (pc := 6) (tgt := 56) B dX1_firstHeld_6 rfl (fun h9 => absurd h9 (fun q9 => absurd ((z_le (a := 4) (b := i) rfl rfl (by omega) (by omega)).mp q9) (by omega))) (fun _ => ?_)
      refine zv_aload_n (pc := 9) B 0 rfl dX1_firstHeld_9 ?_
      refine zv_get (pc := 10) (v := .ref (b + (o + 2))) B (zat (ho.lt (by decide)) (zt_chr ho _ _ _)) cl1 inX1 0 (by decide) wf_X1_11 rfl dX1_firstHeld_10 ?_
      refine zv_iload_n (pc := 13) B 2 rfl dX1_firstHeld_13 ?_
      refine zv_vald (pc := 14) (jj := i) (q1 := b + (o + 3 + 2 * i)) B (zat (ho.lt (by decide)) (zt_vcs ho _ _ _)) rfl (by omega) (by decide) (if_pos (by omega)) dX1_firstHeld_14 ?_
      refine zv_iload_n (pc := 15) B 1 rfl dX1_firstHeld_15 ?_
      refine zv_callV (pc := 16) (As := [.int y]) (rest := []) B (k_X5_holds l E b _ _ _ _ ho (by omega) y) (zcwV 1 0 B wm_X1_48 wi_X5_holds wv_X5_holds wn_X5 wcode_X5_holds rfl (by decide +kernel) ⟨(Nat.le_of_ble_eq_true rfl), (Nat.le_of_ble_eq_true rfl)⟩) rfl (zrecv B (zat (by have h9 : i < 4 := (by omega); have := zTk.lt ho (k := 3 + 2 * i) (by omega); omega) (zt_vc ho (by omega) _ _ _)) cl5) zid rfl (Nat.le_of_ble_eq_true rfl) dX1_firstHeld_16 ⟨(Nat.le_of_ble_eq_true rfl), (Nat.le_of_ble_eq_true rfl)⟩ (fun v9 u9 hv9 => ?_)
      subst hv9
      refine zv_st (st' := [.int (m_X5_holds c ea o i y)]) rfl ?_
      refine zv_if_eq (pc := 19) (tgt := 50) B dX1_firstHeld_19 rfl (fun h3 => ?_) (fun h3 => ?_)
      · refine zv_iinc (pc := 50) (v := nI (i + 1)) (L' := [(3, .int (nI (i + 1))), (0, .ref (b + (o + 1))), (1, .int y), (2, .int x)]) B 2 rfl (nI_1 _) (by decide) rfl dX1_firstHeld_50 ?_
        refine zv_goto (pc := 53) (tgt := 4) B rfl dX1_firstHeld_53 ?_
        refine zv_loc (L' := [(0, .ref (b + (o + 1))), (1, .int y), (3, .int (nI (i + 1))), (2, .int x)]) [1, 2, 0, 3] rfl ?_
        exact ih (i + 1) x hx (by omega) (Eq.trans (by rw [g1_X1_firstHeld, if_pos h3]) hE901) hK
      · refine zv_iload_n (pc := 22) B 3 rfl dX1_firstHeld_22 ?_
        refine zv_iconst (pc := 23) (v := (-1)) B rfl dX1_firstHeld_23 ?_
        refine zv_icmp_eq (pc := 24) (tgt := 48) B dX1_firstHeld_24 rfl (fun h4 => ?_) (fun h4 => ?_)
        · refine zv_iload_n (pc := 48) B 2 rfl dX1_firstHeld_48 ?_
          refine zv_istore_n (pc := 49) (L' := [(2, .int (nI i)), (0, .ref (b + (o + 1))), (1, .int y), (3, .int (nI i))]) B (by decide) rfl dX1_firstHeld_49 ?_
          refine zv_iinc (pc := 50) (v := nI (i + 1)) (L' := [(3, .int (nI (i + 1))), (2, .int (nI i)), (0, .ref (b + (o + 1))), (1, .int y)]) B 3 rfl (nI_1 _) (by decide) rfl dX1_firstHeld_50 ?_
          refine zv_goto (pc := 53) (tgt := 4) B rfl dX1_firstHeld_53 ?_
          refine zv_loc (L' := [(0, .ref (b + (o + 1))), (1, .int y), (3, .int (nI (i + 1))), (2, .int (nI i))]) [2, 3, 0, 1] rfl ?_
          exact ih (i + 1) (nI i) (Or.inr (by rw [zn_nI (by omega)]; omega)) (by omega) (Eq.trans (by rw [g1_X1_firstHeld, if_neg h3, if_pos h4]) hE901) hK
        · refine zv_aload_n (pc := 27) B 0 rfl dX1_firstHeld_27 ?_
          refine zv_get (pc := 28) (v := .ref (b + (o + 2))) B (zat (ho.lt (by decide)) (zt_chr ho _ _ _)) cl1 inX1 0 (by decide) wf_X1_11 rfl dX1_firstHeld_28 ?_
          refine zv_iload_n (pc := 31) B 2 rfl dX1_firstHeld_31 ?_
          refine zv_vald (pc := 32) (jj := i) (q1 := b + (o + 3 + 2 * i)) B (zat (ho.lt (by decide)) (zt_vcs ho _ _ _)) rfl (by omega) (by decide) (if_pos (by omega)) dX1_firstHeld_32 ?_
          refine zv_get (pc := 33) (v := .int (c (o + 3 + 2 * i) 8)) B (zat (by have h9 : i < 4 := (by omega); have := zTk.lt ho (k := 3 + 2 * i) (by omega); omega) (zt_vc ho (by omega) _ _ _)) cl5 inX5 8 (by decide) wf_X1_52 rfl dX1_firstHeld_33 ?_
          refine zv_aload_n (pc := 36) B 0 rfl dX1_firstHeld_36 ?_
          refine zv_get (pc := 37) (v := .ref (b + (o + 2))) B (zat (ho.lt (by decide)) (zt_chr ho _ _ _)) cl1 inX1 0 (by decide) wf_X1_11 rfl dX1_firstHeld_37 ?_
          refine zv_iload_n (pc := 40) B 3 rfl dX1_firstHeld_40 ?_
          refine zv_vald (pc := 41) (jj := (zn x)) (q1 := b + (o + 3 + 2 * (zn x))) B (zat (ho.lt (by decide)) (zt_vcs ho _ _ _)) (zn_eq x) (hx.resolve_left h4) (by decide) (if_pos (hx.resolve_left h4)) dX1_firstHeld_41 ?_
          refine zv_get (pc := 42) (v := .int (c (o + 3 + 2 * (zn x)) 8)) B (zat (by have h9 : zn x < 4 := (hx.resolve_left h4); have := zTk.lt ho (k := 3 + 2 * (zn x)) (by omega); omega) (zt_vc ho (hx.resolve_left h4) _ _ _)) cl5 inX5 8 (by decide) wf_X1_52 rfl dX1_firstHeld_42 ?_
          refine zv_icmp_ge (pc := 45) (tgt := 50) B dX1_firstHeld_45 rfl (fun h5 => ?_) (fun h5 => ?_)
          · refine zv_iinc (pc := 50) (v := nI (i + 1)) (L' := [(3, .int (nI (i + 1))), (0, .ref (b + (o + 1))), (1, .int y), (2, .int x)]) B 2 rfl (nI_1 _) (by decide) rfl dX1_firstHeld_50 ?_
            refine zv_goto (pc := 53) (tgt := 4) B rfl dX1_firstHeld_53 ?_
            refine zv_loc (L' := [(0, .ref (b + (o + 1))), (1, .int y), (3, .int (nI (i + 1))), (2, .int x)]) [1, 2, 0, 3] rfl ?_
            exact ih (i + 1) x hx (by omega) (Eq.trans (by rw [g1_X1_firstHeld, if_neg h3, if_neg h4, if_pos h5]) hE901) hK
          · refine zv_iload_n (pc := 48) B 2 rfl dX1_firstHeld_48 ?_
            refine zv_istore_n (pc := 49) (L' := [(2, .int (nI i)), (0, .ref (b + (o + 1))), (1, .int y), (3, .int (nI i))]) B (by decide) rfl dX1_firstHeld_49 ?_
            refine zv_iinc (pc := 50) (v := nI (i + 1)) (L' := [(3, .int (nI (i + 1))), (2, .int (nI i)), (0, .ref (b + (o + 1))), (1, .int y)]) B 3 rfl (nI_1 _) (by decide) rfl dX1_firstHeld_50 ?_
            refine zv_goto (pc := 53) (tgt := 4) B rfl dX1_firstHeld_53 ?_
            refine zv_loc (L' := [(0, .ref (b + (o + 1))), (1, .int y), (3, .int (nI (i + 1))), (2, .int (nI i))]) [2, 3, 0, 1] rfl ?_
            exact ih (i + 1) (nI i) (Or.inr (by rw [zn_nI (by omega)]; omega)) (by omega) (Eq.trans (by rw [g1_X1_firstHeld, if_neg h3, if_neg h4, if_neg h5]) hE901) hK
  refine zv_loc (L' := [(0, .ref (b + (o + 1))), (1, .int y), (3, .int 0), (2, .int (-1))]) [2, 3, 0, 1] rfl ?_
  refine loop1 (fun i x => x) 4 0 (-1) (Or.inl rfl) (by omega) (by unfold m_X1_firstHeld; rfl) ?_
  intro i x hx hx
  intro (hE951 : x = m_X1_firstHeld c ea o y)
  refine zv_iload_n (pc := 56) B 3 rfl dX1_firstHeld_56 ?_
  have hE6 : x = m_X1_firstHeld c ea o y := hE951
  exact zv_iret (pc := 57) B (x) hr (fun H hP => ⟨(), (congrArg (fun z => some (Value.int z)) hE6), hP⟩) (Nat.le_of_ble_eq_true rfl) (Nat.le_of_ble_eq_true rfl) dX1_firstHeld_57

def g1_X1_countPlaying (c : Nat → Nat → Int32) (o : Nat)  : Nat → Nat → Int32 → (Nat → Int32 → Int32) → Int32
  | 0, i, x, K => K i x
  | n + 1, i, x, K => if (c (o + 3 + 2 * i) 0) = 0 then (g1_X1_countPlaying c o n (i + 1) x K) else (g1_X1_countPlaying c o n (i + 1) (x + 1) K)
def m_X1_countPlaying (c : Nat → Nat → Int32) (o : Nat) : Int32 := g1_X1_countPlaying c o 4 0 0 (fun i x => x)
set_option maxRecDepth 100000 in
set_option maxHeartbeats 4000000 in
theorem k_X1_countPlaying (l : Launch) (E : zE) (b : Nat) (c : Nat → Nat → Int32) (w : Nat → Int64) (en : Nat → Nat) (ea : Nat → Nat → Int32) {o : Nat} (ho : zTk o) : zM l yX1_countPlaying (.code yX1_countPlaying cX1_countPlaying 3 (some .int) :: zAll) (zRm 0 0 0) E b [.ref (b + (o + 1))] (zH E b c w en ea) (fun v9 (_ : Unit) => v9 = some (.int (m_X1_countPlaying c o))) (fun _ => zH E b c w en ea) 0 0 := by
  refine zM_of "ToneGraph$Choir" (by decide) rfl rfl (Nat.le_of_ble_eq_true rfl) (L0 := [(0, .ref (b + (o + 1)))]) rfl ?_
  intro p e s m args below meth c9 B hr hname
  have ho9 : o = 34 ∨ o = 70 := ho
  refine zv_iconst (pc := 0) (v := 0) B rfl dX1_countPlaying_0 ?_
  refine zv_istore_n (pc := 1) (L' := [(1, .int 0), (0, .ref (b + (o + 1)))]) B (by decide) rfl dX1_countPlaying_1 ?_
  refine zv_iconst (pc := 2) (v := 0) B rfl dX1_countPlaying_2 ?_
  refine zv_istore_n (pc := 3) (L' := [(2, .int 0), (1, .int 0), (0, .ref (b + (o + 1)))]) B (by decide) rfl dX1_countPlaying_3 ?_
  have loop1 : ∀ (K : Nat → Int32 → Int32) (n : Nat) (i : Nat) (x : Int32), i + n = 4 → g1_X1_countPlaying c o n i x K = m_X1_countPlaying c o → (∀ (i : Nat) (x : Int32), i ≤ 4 → K i x = m_X1_countPlaying c o → zV p l e (zRm 0 0 0) s m args below meth c9 (MQ below (zQ b (fun v9 (_ : Unit) => v9 = some (.int (m_X1_countPlaying c o))) (fun _ => zH E b c w en ea)) args s 0 0 (zA b)) 3 b (zH E b c w en ea) 30 [(0, .ref (b + (o + 1))), (2, .int (nI i)), (1, .int x)] [] 0 0) → zV p l e (zRm 0 0 0) s m args below meth c9 (MQ below (zQ b (fun v9 (_ : Unit) => v9 = some (.int (m_X1_countPlaying c o))) (fun _ => zH E b c w en ea)) args s 0 0 (zA b)) 3 b (zH E b c w en ea) 4 [(0, .ref (b + (o + 1))), (2, .int (nI i)), (1, .int x)] [] 0 0 := by
    intro K n
    induction n with
    | zero =>
      intro i x hi hE901 hK
      refine zv_iload_n (pc := 4) B 1 rfl dX1_countPlaying_4 ?_
      refine zv_iconst (pc := 5) (v := 4) B rfl dX1_countPlaying_5 ?_
      refine zv_icmp_ge (pc := 6) (tgt := 30) B dX1_countPlaying_6 rfl (fun _ => ?_) (fun h9 => absurd ((z_le (a := 4) (b := i) rfl rfl (by omega) (by omega)).mpr (by omega)) h9)
      exact hK i x  (by omega) (Eq.trans (by rw [g1_X1_countPlaying]) hE901)
    | succ n ih =>
      intro i x hi hE901 hK
      refine zv_iload_n (pc := 4) B 1 rfl dX1_countPlaying_4 ?_
      refine zv_iconst (pc := 5) (v := 4) B rfl dX1_countPlaying_5 ?_
      refine zv_icmp_ge (pc := 6) (tgt := 30) B dX1_countPlaying_6 rfl (fun h9 => absurd h9 (fun q9 => absurd ((z_le (a := 4) (b := i) rfl rfl (by omega) (by omega)).mp q9) (by omega))) (fun _ => ?_)
      refine zv_aload_n (pc := 9) B 0 rfl dX1_countPlaying_9 ?_
      refine zv_get (pc := 10) (v := .ref (b + (o + 2))) B (zat (ho.lt (by decide)) (zt_chr ho _ _ _)) cl1 inX1 0 (by decide) wf_X1_11 rfl dX1_countPlaying_10 ?_
      refine zv_iload_n (pc := 13) B 1 rfl dX1_countPlaying_13 ?_
      refine zv_vald (pc := 14) (jj := i) (q1 := b + (o + 3 + 2 * i)) B (zat (ho.lt (by decide)) (zt_vcs ho _ _ _)) rfl (by omega) (by decide) (if_pos (by omega)) dX1_countPlaying_14 ?_
      refine zv_get (pc := 15) (v := .int (c (o + 3 + 2 * i) 0)) B (zat (by have h9 : i < 4 := (by omega); have := zTk.lt ho (k := 3 + 2 * i) (by omega); omega) (zt_vc ho (by omega) _ _ _)) cl5 inX5 0 (by decide) wf_X1_40 rfl dX1_countPlaying_15 ?_
      refine zv_if_eq (pc := 18) (tgt := 24) B dX1_countPlaying_18 rfl (fun h3 => ?_) (fun h3 => ?_)
      · refine zv_iinc (pc := 24) (v := nI (i + 1)) (L' := [(2, .int (nI (i + 1))), (0, .ref (b + (o + 1))), (1, .int x)]) B 1 rfl (nI_1 _) (by decide) rfl dX1_countPlaying_24 ?_
        refine zv_goto (pc := 27) (tgt := 4) B rfl dX1_countPlaying_27 ?_
        refine zv_loc (L' := [(0, .ref (b + (o + 1))), (2, .int (nI (i + 1))), (1, .int x)]) [1, 0, 2] rfl ?_
        exact ih (i + 1) x  (by omega) (Eq.trans (by rw [g1_X1_countPlaying, if_pos h3]) hE901) hK
      · refine zv_iinc (pc := 21) (v := x + 1) (L' := [(1, .int (x + 1)), (0, .ref (b + (o + 1))), (2, .int (nI i))]) B 2 rfl rfl (by decide) rfl dX1_countPlaying_21 ?_
        refine zv_iinc (pc := 24) (v := nI (i + 1)) (L' := [(2, .int (nI (i + 1))), (1, .int (x + 1)), (0, .ref (b + (o + 1)))]) B 2 rfl (nI_1 _) (by decide) rfl dX1_countPlaying_24 ?_
        refine zv_goto (pc := 27) (tgt := 4) B rfl dX1_countPlaying_27 ?_
        refine zv_loc (L' := [(0, .ref (b + (o + 1))), (2, .int (nI (i + 1))), (1, .int (x + 1))]) [2, 0, 1] rfl ?_
        exact ih (i + 1) (x + 1)  (by omega) (Eq.trans (by rw [g1_X1_countPlaying, if_neg h3]) hE901) hK
  refine zv_loc (L' := [(0, .ref (b + (o + 1))), (2, .int 0), (1, .int 0)]) [2, 0, 1] rfl ?_
  refine loop1 (fun i x => x) 4 0 0  (by omega) (by unfold m_X1_countPlaying; rfl) ?_
  intro i x hx
  intro (hE951 : x = m_X1_countPlaying c o)
  refine zv_iload_n (pc := 30) B 2 rfl dX1_countPlaying_30 ?_
  have hE4 : x = m_X1_countPlaying c o := hE951
  exact zv_iret (pc := 31) B (x) hr (fun H hP => ⟨(), (congrArg (fun z => some (Value.int z)) hE4), hP⟩) (Nat.le_of_ble_eq_true rfl) (Nat.le_of_ble_eq_true rfl) dX1_countPlaying_31

def g1_X1_hasLevelsInRange (c : Nat → Nat → Int32) (ea : Nat → Nat → Int32) (o : Nat)  : Nat → Nat → (Nat → Int32) → Int32
  | 0, i, K => K i
  | n + 1, i, K => if (m_X5_level c ea o i) < 0 then 0 else (if (m_X5_level c ea o i) ≤ 1000 then (g1_X1_hasLevelsInRange c ea o n (i + 1) K) else 0)
def m_X1_hasLevelsInRange (c : Nat → Nat → Int32) (ea : Nat → Nat → Int32) (o : Nat) : Int32 := g1_X1_hasLevelsInRange c ea o 4 0 (fun i => 1)
set_option maxRecDepth 100000 in
set_option maxHeartbeats 4000000 in
theorem k_X1_hasLevelsInRange (l : Launch) (E : zE) (b : Nat) (c : Nat → Nat → Int32) (w : Nat → Int64) (en : Nat → Nat) (ea : Nat → Nat → Int32) {o : Nat} (ho : zTk o) : zM l yX1_hasLevelsInRange (.code yX1_hasLevelsInRange cX1_hasLevelsInRange 3 (some .boolean) :: zAll) (zRm 1 0 0) E b [.ref (b + (o + 1))] (zH E b c w en ea) (fun v9 (_ : Unit) => v9 = some (.int (m_X1_hasLevelsInRange c ea o))) (fun _ => zH E b c w en ea) 0 0 := by
  refine zM_of "ToneGraph$Choir" (by decide) rfl rfl (Nat.le_of_ble_eq_true rfl) (L0 := [(0, .ref (b + (o + 1)))]) rfl ?_
  intro p e s m args below meth c9 B hr hname
  have ho9 : o = 34 ∨ o = 70 := ho
  refine zv_iconst (pc := 0) (v := 0) B rfl dX1_hasLevelsInRange_0 ?_
  refine zv_istore_n (pc := 1) (L' := [(1, .int 0), (0, .ref (b + (o + 1)))]) B (by decide) rfl dX1_hasLevelsInRange_1 ?_
  have loop1 : ∀ (K : Nat → Int32) (n : Nat) (i : Nat), i + n = 4 → g1_X1_hasLevelsInRange c ea o n i K = m_X1_hasLevelsInRange c ea o → (∀ (i : Nat), i ≤ 4 → K i = m_X1_hasLevelsInRange c ea o → zV p l e (zRm 1 0 0) s m args below meth c9 (MQ below (zQ b (fun v9 (_ : Unit) => v9 = some (.int (m_X1_hasLevelsInRange c ea o))) (fun _ => zH E b c w en ea)) args s 0 0 (zA b)) 3 b (zH E b c w en ea) 36 [(0, .ref (b + (o + 1))), (1, .int (nI i))] [] 0 0) → zV p l e (zRm 1 0 0) s m args below meth c9 (MQ below (zQ b (fun v9 (_ : Unit) => v9 = some (.int (m_X1_hasLevelsInRange c ea o))) (fun _ => zH E b c w en ea)) args s 0 0 (zA b)) 3 b (zH E b c w en ea) 2 [(0, .ref (b + (o + 1))), (1, .int (nI i))] [] 0 0 := by
    intro K n
    induction n with
    | zero =>
      intro i hi hE901 hK
      refine zv_iload_n (pc := 2) B 1 rfl dX1_hasLevelsInRange_2 ?_
      refine zv_iconst (pc := 3) (v := 4) B rfl dX1_hasLevelsInRange_3 ?_
      refine zv_icmp_ge (pc := 4) (tgt := 36) B dX1_hasLevelsInRange_4 rfl (fun _ => ?_) (fun h9 => absurd ((z_le (a := 4) (b := i) rfl rfl (by omega) (by omega)).mpr (by omega)) h9)
      exact hK i  (by omega) (Eq.trans (by rw [g1_X1_hasLevelsInRange]) hE901)
    | succ n ih =>
      intro i hi hE901 hK
      refine zv_iload_n (pc := 2) B 1 rfl dX1_hasLevelsInRange_2 ?_
      refine zv_iconst (pc := 3) (v := 4) B rfl dX1_hasLevelsInRange_3 ?_
      refine zv_icmp_ge (pc := 4) (tgt := 36) B dX1_hasLevelsInRange_4 rfl (fun h9 => absurd h9 (fun q9 => absurd ((z_le (a := 4) (b := i) rfl rfl (by omega) (by omega)).mp q9) (by omega))) (fun _ => ?_)
      refine zv_aload_n (pc := 7) B 0 rfl dX1_hasLevelsInRange_7 ?_
      refine zv_get (pc := 8) (v := .ref (b + (o + 2))) B (zat (ho.lt (by decide)) (zt_chr ho _ _ _)) cl1 inX1 0 (by decide) wf_X1_11 rfl dX1_hasLevelsInRange_8 ?_
      refine zv_iload_n (pc := 11) B 1 rfl dX1_hasLevelsInRange_11 ?_
      refine zv_vald (pc := 12) (jj := i) (q1 := b + (o + 3 + 2 * i)) B (zat (ho.lt (by decide)) (zt_vcs ho _ _ _)) rfl (by omega) (by decide) (if_pos (by omega)) dX1_hasLevelsInRange_12 ?_
      refine zv_callV (pc := 13) (As := []) (rest := []) B (k_X5_level l E b _ _ _ _ ho (by omega)) (zcwV 0 0 B wm_X1_62 wi_X5_level wv_X5_level wn_X5 wcode_X5_level rfl (by decide +kernel) ⟨(Nat.le_of_ble_eq_true rfl), (Nat.le_of_ble_eq_true rfl)⟩) rfl (zrecv B (zat (by have h9 : i < 4 := (by omega); have := zTk.lt ho (k := 3 + 2 * i) (by omega); omega) (zt_vc ho (by omega) _ _ _)) cl5) zid rfl (Nat.le_of_ble_eq_true rfl) dX1_hasLevelsInRange_13 ⟨(Nat.le_of_ble_eq_true rfl), (Nat.le_of_ble_eq_true rfl)⟩ (fun v9 u9 hv9 => ?_)
      subst hv9
      refine zv_st (st' := [.int (m_X5_level c ea o i)]) rfl ?_
      refine zv_istore_n (pc := 16) (L' := [(2, .int (m_X5_level c ea o i)), (0, .ref (b + (o + 1))), (1, .int (nI i))]) B (by decide) rfl dX1_hasLevelsInRange_16 ?_
      refine zv_iload_n (pc := 17) B 0 rfl dX1_hasLevelsInRange_17 ?_
      refine zv_if_lt (pc := 18) (tgt := 28) B dX1_hasLevelsInRange_18 rfl (fun h3 => ?_) (fun h3 => ?_)
      · refine zv_iconst (pc := 28) (v := 0) B rfl dX1_hasLevelsInRange_28 ?_
        have hE4 : 0 = m_X1_hasLevelsInRange c ea o := (Eq.trans (by rw [g1_X1_hasLevelsInRange, if_pos h3]) hE901)
        exact zv_zret (pc := 29) B (0) rfl hr (fun H hP => ⟨(), (congrArg (fun z => some (Value.int z)) hE4), hP⟩) (Nat.le_of_ble_eq_true rfl) (Nat.le_of_ble_eq_true rfl) dX1_hasLevelsInRange_29
      · refine zv_iload_n (pc := 21) B 0 rfl dX1_hasLevelsInRange_21 ?_
        refine zv_sipush (pc := 22) (v := 1000) B rfl dX1_hasLevelsInRange_22 ?_
        refine zv_icmp_le (pc := 25) (tgt := 30) B dX1_hasLevelsInRange_25 rfl (fun h5 => ?_) (fun h5 => ?_)
        · refine zv_iinc (pc := 30) (v := nI (i + 1)) (L' := [(1, .int (nI (i + 1))), (2, .int (m_X5_level c ea o i)), (0, .ref (b + (o + 1)))]) B 2 rfl (nI_1 _) (by decide) rfl dX1_hasLevelsInRange_30 ?_
          refine zv_goto (pc := 33) (tgt := 2) B rfl dX1_hasLevelsInRange_33 ?_
          refine zv_loc (L' := [(0, .ref (b + (o + 1))), (1, .int (nI (i + 1)))]) [2, 0] rfl ?_
          exact ih (i + 1)  (by omega) (Eq.trans (by rw [g1_X1_hasLevelsInRange, if_neg h3, if_pos h5]) hE901) hK
        · refine zv_iconst (pc := 28) (v := 0) B rfl dX1_hasLevelsInRange_28 ?_
          have hE6 : 0 = m_X1_hasLevelsInRange c ea o := (Eq.trans (by rw [g1_X1_hasLevelsInRange, if_neg h3, if_neg h5]) hE901)
          exact zv_zret (pc := 29) B (0) rfl hr (fun H hP => ⟨(), (congrArg (fun z => some (Value.int z)) hE6), hP⟩) (Nat.le_of_ble_eq_true rfl) (Nat.le_of_ble_eq_true rfl) dX1_hasLevelsInRange_29
  refine zv_loc (L' := [(0, .ref (b + (o + 1))), (1, .int 0)]) [1, 0] rfl ?_
  refine loop1 (fun i => 1) 4 0  (by omega) (by unfold m_X1_hasLevelsInRange; rfl) ?_
  intro i hx
  intro (hE951 : 1 = m_X1_hasLevelsInRange c ea o)
  refine zv_iconst (pc := 36) (v := 1) B rfl dX1_hasLevelsInRange_36 ?_
  have hE7 : 1 = m_X1_hasLevelsInRange c ea o := hE951
  exact zv_zret (pc := 37) B (1) rfl hr (fun H hP => ⟨(), (congrArg (fun z => some (Value.int z)) hE7), hP⟩) (Nat.le_of_ble_eq_true rfl) (Nat.le_of_ble_eq_true rfl) dX1_hasLevelsInRange_37

def m_X1_releaseNote (c : Nat → Nat → Int32) (ea : Nat → Nat → Int32) (o : Nat) (v : Nat) : (Nat → Nat → Int32) := (m_X5_release (zup c (o + 1) 1 ((c (o + 1) 1) + 1)) ea o v ((c (o + 1) 1) + 1))
set_option maxRecDepth 100000 in
set_option maxHeartbeats 4000000 in
theorem k_X1_releaseNote (l : Launch) (E : zE) (b : Nat) (c : Nat → Nat → Int32) (w : Nat → Int64) (en : Nat → Nat) (ea : Nat → Nat → Int32) {o : Nat} (ho : zTk o) {v : Nat} (hv : v < 4) (hg : zG c) : zM l yX1_releaseNote (.code yX1_releaseNote cX1_releaseNote 2 none :: zAll) (zRm 2 0 0) E b [.ref (b + (o + 1)), .int (nI v)] (zH E b c w en ea) (fun v9 (_ : Unit) => v9 = none ∧ zfr (o + 0) (o + 11) (o + 0) (o + 0) c (m_X1_releaseNote c ea o v) ∧ zG (m_X1_releaseNote c ea o v)) (fun _ => zH E b (m_X1_releaseNote c ea o v) w en ea) 0 0 := by
  refine zM_of "ToneGraph$Choir" (by decide) rfl rfl (Nat.le_of_ble_eq_true rfl) (L0 := [(0, .ref (b + (o + 1))), (1, .int (nI v))]) rfl ?_
  intro p e s m args below meth c9 B hr hname
  have ho9 : o = 34 ∨ o = 70 := ho
  refine zv_aload_n (pc := 0) B 0 rfl dX1_releaseNote_0 ?_
  refine zv_dup (pc := 1) B rfl dX1_releaseNote_1 ?_
  refine zv_get (pc := 2) (v := .int (c (o + 1) 1)) B (zat (ho.lt (by decide)) (zt_chr ho _ _ _)) cl1 inX1 1 (by decide) wf_X1_33 rfl dX1_releaseNote_2 ?_
  refine zv_iconst (pc := 5) (v := 1) B rfl dX1_releaseNote_5 ?_
  refine zv_iadd (pc := 6) B dX1_releaseNote_6 ?_
  refine zs_put9 (pc := 7) (f := 1) (F := fun x9 => [.ref (b + (o + 2)), .int (x9 1), .int (x9 2)]) B zid (ho.lt (by decide)) (zt_chr_e ho) (fun x => zt_chr ho x _ _) cl1 inX1 tyX1 tyX1_ok nmX1 (by decide) wf_X1_33 rfl rfl rfl rfl (Nat.le_of_ble_eq_true rfl) (fun _ _ => rfl) dX1_releaseNote_7 ?_
  refine zv_aload_n (pc := 10) B 0 rfl dX1_releaseNote_10 ?_
  refine zv_get (pc := 11) (v := .ref (b + (o + 2))) B (zat (ho.lt (by decide)) (zt_chr ho _ _ _)) cl1 inX1 0 (by decide) wf_X1_11 rfl dX1_releaseNote_11 ?_
  refine zv_iload_n (pc := 14) B 1 rfl dX1_releaseNote_14 ?_
  refine zv_vald (pc := 15) (jj := v) (q1 := b + (o + 3 + 2 * v)) B (zat (ho.lt (by decide)) (zt_vcs ho _ _ _)) rfl hv (by decide) (if_pos hv) dX1_releaseNote_15 ?_
  refine zv_aload_n (pc := 16) B 0 rfl dX1_releaseNote_16 ?_
  refine zv_get (pc := 17) (v := .int ((zup c (o + 1) 1 ((c (o + 1) 1) + 1)) (o + 1) 1)) B (zat (ho.lt (by decide)) (zt_chr ho _ _ _)) cl1 inX1 1 (by decide) wf_X1_33 rfl dX1_releaseNote_17 ?_
  refine zv_topi (y := (c (o + 1) 1) + 1) (by rw [zup_s]) ?_
  refine zv_callV (pc := 20) (As := [.int ((c (o + 1) 1) + 1)]) (rest := []) B (k_X5_release l E b _ _ _ _ ho hv ((c (o + 1) 1) + 1) (zG.free hg (by unfold zfree; omega))) (zcwV 1 1 B wm_X1_55 wi_X5_release wv_X5_release wn_X5 wcode_X5_release rfl (by decide +kernel) ⟨(Nat.le_of_ble_eq_true rfl), (Nat.le_of_ble_eq_true rfl)⟩) rfl (zrecv B (zat (by have h9 : v < 4 := hv; have := zTk.lt ho (k := 3 + 2 * v) (by omega); omega) (zt_vc ho hv _ _ _)) cl5) zid rfl (Nat.le_of_ble_eq_true rfl) dX1_releaseNote_20 ⟨(Nat.le_of_ble_eq_true rfl), (Nat.le_of_ble_eq_true rfl)⟩ (fun v9 u9 hv9 => ?_)
  obtain ⟨rfl, hF2001, hg2001⟩ := hv9
  refine zv_st (st' := []) rfl ?_
  have hE2 : (m_X5_release (zup c (o + 1) 1 ((c (o + 1) 1) + 1)) ea o v ((c (o + 1) 1) + 1)) = m_X1_releaseNote c ea o v := (by unfold m_X1_releaseNote; rfl)
  exact zv_vret (pc := 23) B hr (fun H hP => ⟨(), ⟨rfl, Eq.subst (motive := fun z => zfr (o + 0) (o + 11) (o + 0) (o + 0) c z) hE2 (zfr.call (zfr.up zfr.refl (by omega)) hF2001 (by have h8 : v < 4 := hv; omega)), Eq.subst (motive := fun z => zG z) hE2 hg2001⟩, Eq.subst (motive := fun z => zH E b z w en ea H) hE2 hP⟩) (Nat.le_of_ble_eq_true rfl) (Nat.le_of_ble_eq_true rfl) dX1_releaseNote_23

def g1_X1_releaseEach (c : Nat → Nat → Int32) (ea : Nat → Nat → Int32) (o : Nat)  : Nat → Nat → Int32 → (Nat → Nat → Int32) → (Nat → Int32 → (Nat → Nat → Int32) → Int32 × (Nat → Nat → Int32)) → Int32 × (Nat → Nat → Int32)
  | 0, i, x, c1, K => K i x c1
  | n + 1, i, x, c1, K => if (m_X5_holds c1 ea o i (-1)) = 0 then (g1_X1_releaseEach c ea o n (i + 1) x c1 K) else (g1_X1_releaseEach c ea o n (i + 1) (x + 1) (m_X1_releaseNote c1 ea o i) K)
def m_X1_releaseEach (c : Nat → Nat → Int32) (ea : Nat → Nat → Int32) (o : Nat) : Int32 × (Nat → Nat → Int32) := g1_X1_releaseEach c ea o 4 0 0 c (fun i x c1 => (x, c1))
set_option maxRecDepth 100000 in
set_option maxHeartbeats 4000000 in
theorem k_X1_releaseEach (l : Launch) (E : zE) (b : Nat) (c : Nat → Nat → Int32) (w : Nat → Int64) (en : Nat → Nat) (ea : Nat → Nat → Int32) {o : Nat} (ho : zTk o) (hg : zG c) : zM l yX1_releaseEach (.code yX1_releaseEach cX1_releaseEach 3 (some .int) :: zAll) (zRm 3 0 0) E b [.ref (b + (o + 1))] (zH E b c w en ea) (fun v9 (_ : Unit) => v9 = some (.int (m_X1_releaseEach c ea o).1) ∧ zfr (o + 0) (o + 11) (o + 0) (o + 0) c (m_X1_releaseEach c ea o).2 ∧ zG (m_X1_releaseEach c ea o).2) (fun _ => zH E b ((m_X1_releaseEach c ea o).2) w en ea) 0 0 := by
  refine zM_of "ToneGraph$Choir" (by decide) rfl rfl (Nat.le_of_ble_eq_true rfl) (L0 := [(0, .ref (b + (o + 1)))]) rfl ?_
  intro p e s m args below meth c9 B hr hname
  have ho9 : o = 34 ∨ o = 70 := ho
  refine zv_iconst (pc := 0) (v := 0) B rfl dX1_releaseEach_0 ?_
  refine zv_istore_n (pc := 1) (L' := [(1, .int 0), (0, .ref (b + (o + 1)))]) B (by decide) rfl dX1_releaseEach_1 ?_
  refine zv_iconst (pc := 2) (v := 0) B rfl dX1_releaseEach_2 ?_
  refine zv_istore_n (pc := 3) (L' := [(2, .int 0), (1, .int 0), (0, .ref (b + (o + 1)))]) B (by decide) rfl dX1_releaseEach_3 ?_
  have loop1 : ∀ (K : Nat → Int32 → (Nat → Nat → Int32) → Int32 × (Nat → Nat → Int32)) (n : Nat) (i : Nat) (x : Int32) (c1 : Nat → Nat → Int32), zfr (o + 0) (o + 11) (o + 0) (o + 0) c c1 → zG c1 → i + n = 4 → g1_X1_releaseEach c ea o n i x c1 K = m_X1_releaseEach c ea o → (∀ (i : Nat) (x : Int32) (c1 : Nat → Nat → Int32), zfr (o + 0) (o + 11) (o + 0) (o + 0) c c1 → zG c1 → i ≤ 4 → K i x c1 = m_X1_releaseEach c ea o → zV p l e (zRm 3 0 0) s m args below meth c9 (MQ below (zQ b (fun v9 (_ : Unit) => v9 = some (.int (m_X1_releaseEach c ea o).1) ∧ zfr (o + 0) (o + 11) (o + 0) (o + 0) c (m_X1_releaseEach c ea o).2 ∧ zG (m_X1_releaseEach c ea o).2) (fun _ => zH E b ((m_X1_releaseEach c ea o).2) w en ea)) args s 0 0 (zA b)) 3 b (zH E b c1 w en ea) 36 [(0, .ref (b + (o + 1))), (2, .int (nI i)), (1, .int x)] [] 0 0) → zV p l e (zRm 3 0 0) s m args below meth c9 (MQ below (zQ b (fun v9 (_ : Unit) => v9 = some (.int (m_X1_releaseEach c ea o).1) ∧ zfr (o + 0) (o + 11) (o + 0) (o + 0) c (m_X1_releaseEach c ea o).2 ∧ zG (m_X1_releaseEach c ea o).2) (fun _ => zH E b ((m_X1_releaseEach c ea o).2) w en ea)) args s 0 0 (zA b)) 3 b (zH E b c1 w en ea) 4 [(0, .ref (b + (o + 1))), (2, .int (nI i)), (1, .int x)] [] 0 0 := by
    intro K n
    induction n with
    | zero =>
      intro i x c1 hF1 hg1 hi hE901 hK
      have hF9 := hF1
      refine zv_iload_n (pc := 4) B 1 rfl dX1_releaseEach_4 ?_
      refine zv_iconst (pc := 5) (v := 4) B rfl dX1_releaseEach_5 ?_
      refine zv_icmp_ge (pc := 6) (tgt := 36) B dX1_releaseEach_6 rfl (fun _ => ?_) (fun h9 => absurd ((z_le (a := 4) (b := i) rfl rfl (by omega) (by omega)).mpr (by omega)) h9)
      exact hK i x c1 hF1 hg1 (by omega) (Eq.trans (by rw [g1_X1_releaseEach]) hE901)
    | succ n ih =>
      intro i x c1 hF1 hg1 hi hE901 hK
      have hF9 := hF1
      refine zv_iload_n (pc := 4) B 1 rfl dX1_releaseEach_4 ?_
      refine zv_iconst (pc := 5) (v := 4) B rfl dX1_releaseEach_5 ?_
      refine zv_icmp_ge (pc := 6) (tgt := 36) B dX1_releaseEach_6 rfl (fun h9 => absurd h9 (fun q9 => absurd ((z_le (a := 4) (b := i) rfl rfl (by omega) (by omega)).mp q9) (by omega))) (fun _ => ?_)
      refine zv_aload_n (pc := 9) B 0 rfl dX1_releaseEach_9 ?_
      refine zv_get (pc := 10) (v := .ref (b + (o + 2))) B (zat (ho.lt (by decide)) (zt_chr ho _ _ _)) cl1 inX1 0 (by decide) wf_X1_11 rfl dX1_releaseEach_10 ?_
      refine zv_iload_n (pc := 13) B 1 rfl dX1_releaseEach_13 ?_
      refine zv_vald (pc := 14) (jj := i) (q1 := b + (o + 3 + 2 * i)) B (zat (ho.lt (by decide)) (zt_vcs ho _ _ _)) rfl (by omega) (by decide) (if_pos (by omega)) dX1_releaseEach_14 ?_
      refine zv_iconst (pc := 15) (v := (-1)) B rfl dX1_releaseEach_15 ?_
      refine zv_callV (pc := 16) (As := [.int (-1)]) (rest := []) B (k_X5_holds l E b _ _ _ _ ho (by omega) (-1)) (zcwV 1 0 B wm_X1_48 wi_X5_holds wv_X5_holds wn_X5 wcode_X5_holds rfl (by decide +kernel) ⟨(Nat.le_of_ble_eq_true rfl), (Nat.le_of_ble_eq_true rfl)⟩) rfl (zrecv B (zat (by have h9 : i < 4 := (by omega); have := zTk.lt ho (k := 3 + 2 * i) (by omega); omega) (zt_vc ho (by omega) _ _ _)) cl5) zid rfl (Nat.le_of_ble_eq_true rfl) dX1_releaseEach_16 ⟨(Nat.le_of_ble_eq_true rfl), (Nat.le_of_ble_eq_true rfl)⟩ (fun v9 u9 hv9 => ?_)
      subst hv9
      refine zv_st (st' := [.int (m_X5_holds c1 ea o i (-1))]) rfl ?_
      refine zv_if_eq (pc := 19) (tgt := 30) B dX1_releaseEach_19 rfl (fun h3 => ?_) (fun h3 => ?_)
      · refine zv_iinc (pc := 30) (v := nI (i + 1)) (L' := [(2, .int (nI (i + 1))), (0, .ref (b + (o + 1))), (1, .int x)]) B 1 rfl (nI_1 _) (by decide) rfl dX1_releaseEach_30 ?_
        refine zv_goto (pc := 33) (tgt := 4) B rfl dX1_releaseEach_33 ?_
        refine zv_loc (L' := [(0, .ref (b + (o + 1))), (2, .int (nI (i + 1))), (1, .int x)]) [1, 0, 2] rfl ?_
        exact ih (i + 1) x c1 hF1 hg1 (by omega) (Eq.trans (by rw [g1_X1_releaseEach, if_pos h3]) hE901) hK
      · refine zv_aload_n (pc := 22) B 0 rfl dX1_releaseEach_22 ?_
        refine zv_iload_n (pc := 23) B 1 rfl dX1_releaseEach_23 ?_
        refine zv_callV (pc := 24) (As := [.int (nI i)]) (rest := []) B (k_X1_releaseNote l E b _ _ _ _ ho (by omega) hg1) (zcwV 1 2 B wm_X1_59 wi_X1_releaseNote wv_X1_releaseNote wn_X1 wcode_X1_releaseNote rfl (by decide +kernel) ⟨(Nat.le_of_ble_eq_true rfl), (Nat.le_of_ble_eq_true rfl)⟩) rfl (zrecv B (zat (ho.lt (by decide)) (zt_chr ho _ _ _)) cl1) zid rfl (Nat.le_of_ble_eq_true rfl) dX1_releaseEach_24 ⟨(Nat.le_of_ble_eq_true rfl), (Nat.le_of_ble_eq_true rfl)⟩ (fun v9 u9 hv9 => ?_)
        obtain ⟨rfl, hF2004, hg2004⟩ := hv9
        refine zv_st (st' := []) rfl ?_
        refine zv_iinc (pc := 27) (v := x + 1) (L' := [(1, .int (x + 1)), (0, .ref (b + (o + 1))), (2, .int (nI i))]) B 2 rfl rfl (by decide) rfl dX1_releaseEach_27 ?_
        refine zv_iinc (pc := 30) (v := nI (i + 1)) (L' := [(2, .int (nI (i + 1))), (1, .int (x + 1)), (0, .ref (b + (o + 1)))]) B 2 rfl (nI_1 _) (by decide) rfl dX1_releaseEach_30 ?_
        refine zv_goto (pc := 33) (tgt := 4) B rfl dX1_releaseEach_33 ?_
        refine zv_loc (L' := [(0, .ref (b + (o + 1))), (2, .int (nI (i + 1))), (1, .int (x + 1))]) [2, 0, 1] rfl ?_
        exact ih (i + 1) (x + 1) (m_X1_releaseNote c1 ea o i) (zfr.call hF1 hF2004 (by omega)) hg2004 (by omega) (Eq.trans (by rw [g1_X1_releaseEach, if_neg h3]) hE901) hK
  refine zv_loc (L' := [(0, .ref (b + (o + 1))), (2, .int 0), (1, .int 0)]) [2, 0, 1] rfl ?_
  refine loop1 (fun i x c1 => (x, c1)) 4 0 0 c zfr.refl hg (by omega) (by unfold m_X1_releaseEach; rfl) ?_
  intro i x c1 hF1 hg1 hx
  intro (hE951 : (x, c1) = m_X1_releaseEach c ea o)
  refine zv_iload_n (pc := 36) B 2 rfl dX1_releaseEach_36 ?_
  have hE5 : (x, c1) = m_X1_releaseEach c ea o := hE951
  exact zv_iret (pc := 37) B (x) hr (fun H hP => ⟨(), ⟨(congrArg (fun z => some (Value.int z.1)) hE5), Eq.subst (motive := fun z => zfr (o + 0) (o + 11) (o + 0) (o + 0) c z.2) hE5 hF1, Eq.subst (motive := fun z => zG z.2) hE5 hg1⟩, Eq.subst (motive := fun z => zH E b z.2 w en ea H) hE5 hP⟩) (Nat.le_of_ble_eq_true rfl) (Nat.le_of_ble_eq_true rfl) dX1_releaseEach_37

def m_X1_startNote (c : Nat → Nat → Int32) (en : Nat → Nat) (ea : Nat → Nat → Int32) (o : Nat) (k : Nat) (x y : Int32) (q : Nat) (f : Nat → Int32) : Int32 × (Nat → Nat → Int32) × (Nat → Nat) × (Nat → Nat → Int32) := if (m_X1_lowestFree c o) = (-1) then ((m_X1_mostStealable c ea o), (m_X5_start (zup (zup c (o + 1) 2 ((c (o + 1) 2) + 1)) (o + 1) 1 ((c (o + 1) 1) + 1)) en ea o (zn (m_X1_mostStealable c ea o)) k x y ((c (o + 1) 1) + 1) q f).1, (m_X5_start (zup (zup c (o + 1) 2 ((c (o + 1) 2) + 1)) (o + 1) 1 ((c (o + 1) 1) + 1)) en ea o (zn (m_X1_mostStealable c ea o)) k x y ((c (o + 1) 1) + 1) q f).2.1, (m_X5_start (zup (zup c (o + 1) 2 ((c (o + 1) 2) + 1)) (o + 1) 1 ((c (o + 1) 1) + 1)) en ea o (zn (m_X1_mostStealable c ea o)) k x y ((c (o + 1) 1) + 1) q f).2.2) else ((m_X1_lowestFree c o), (m_X5_start (zup c (o + 1) 1 ((c (o + 1) 1) + 1)) en ea o (zn (m_X1_lowestFree c o)) k x y ((c (o + 1) 1) + 1) q f).1, (m_X5_start (zup c (o + 1) 1 ((c (o + 1) 1) + 1)) en ea o (zn (m_X1_lowestFree c o)) k x y ((c (o + 1) 1) + 1) q f).2.1, (m_X5_start (zup c (o + 1) 1 ((c (o + 1) 1) + 1)) en ea o (zn (m_X1_lowestFree c o)) k x y ((c (o + 1) 1) + 1) q f).2.2)
set_option maxRecDepth 100000 in
set_option maxHeartbeats 4000000 in
theorem k_X1_startNote (l : Launch) (E : zE) (b : Nat) (c : Nat → Nat → Int32) (w : Nat → Int64) (en : Nat → Nat) (ea : Nat → Nat → Int32) {o : Nat} (ho : zTk o) {k : Nat} (hk : k < 60) (x y : Int32) (hy : zn y ≤ 65535) (q : Nat) (f : Nat → Int32) (hq : ∀ c H, zH E b c w en ea H → zEv E b q f H) (hg : zG c) : zM l yX1_startNote (.code yX1_startNote cX1_startNote 6 (some .int) :: zAll) (zRm 2 0 0) E b [.ref (b + (o + 1)), .int (nI k), .int x, .int y, .ref q] (zH E b c w en ea) (fun v9 (_ : Unit) => v9 = some (.int (m_X1_startNote c en ea o k x y q f).1) ∧ zfr (o + 0) (o + 11) (o + 0) (o + 0) c (m_X1_startNote c en ea o k x y q f).2.1 ∧ zG (m_X1_startNote c en ea o k x y q f).2.1) (fun _ => zH E b ((m_X1_startNote c en ea o k x y q f).2.1) w ((m_X1_startNote c en ea o k x y q f).2.2.1) ((m_X1_startNote c en ea o k x y q f).2.2.2)) 0 0 := by
  refine zM_of "ToneGraph$Choir" (by decide) rfl rfl (Nat.le_of_ble_eq_true rfl) (L0 := [(0, .ref (b + (o + 1))), (1, .int (nI k)), (2, .int x), (3, .int y), (4, .ref q)]) rfl ?_
  intro p e s m args below meth c9 B hr hname
  have ho9 : o = 34 ∨ o = 70 := ho
  refine zv_aload_n (pc := 0) B 0 rfl dX1_startNote_0 ?_
  refine zv_callV (pc := 1) (As := []) (rest := []) B (k_X1_lowestFree l E b _ _ _ _ ho) (zcwV 0 0 B wm_X1_22 wi_X1_lowestFree wv_X1_lowestFree wn_X1 wcode_X1_lowestFree rfl (by decide +kernel) ⟨(Nat.le_of_ble_eq_true rfl), (Nat.le_of_ble_eq_true rfl)⟩) rfl (zrecv B (zat (ho.lt (by decide)) (zt_chr ho _ _ _)) cl1) zid rfl (Nat.le_of_ble_eq_true rfl) dX1_startNote_1 ⟨(Nat.le_of_ble_eq_true rfl), (Nat.le_of_ble_eq_true rfl)⟩ (fun v9 u9 hv9 => ?_)
  subst hv9
  refine zv_st (st' := [.int (m_X1_lowestFree c o)]) rfl ?_
  refine zv_istore (pc := 4) (L' := [(5, .int (m_X1_lowestFree c o)), (0, .ref (b + (o + 1))), (1, .int (nI k)), (2, .int x), (3, .int y), (4, .ref q)]) B (by decide) rfl dX1_startNote_4 ?_
  refine zv_iload (pc := 6) B 0 rfl dX1_startNote_6 ?_
  refine zv_iconst (pc := 8) (v := (-1)) B rfl dX1_startNote_8 ?_
  refine zv_icmp_ne (pc := 9) (tgt := 28) B dX1_startNote_9 rfl (fun h1 => ?_) (fun h1 => ?_)
  · refine zv_aload_n (pc := 28) B 1 rfl dX1_startNote_28 ?_
    refine zv_dup (pc := 29) B rfl dX1_startNote_29 ?_
    refine zv_get (pc := 30) (v := .int (c (o + 1) 1)) B (zat (ho.lt (by decide)) (zt_chr ho _ _ _)) cl1 inX1 1 (by decide) wf_X1_33 rfl dX1_startNote_30 ?_
    refine zv_iconst (pc := 33) (v := 1) B rfl dX1_startNote_33 ?_
    refine zv_iadd (pc := 34) B dX1_startNote_34 ?_
    refine zs_put9 (pc := 35) (f := 1) (F := fun x9 => [.ref (b + (o + 2)), .int (x9 1), .int (x9 2)]) B zid (ho.lt (by decide)) (zt_chr_e ho) (fun x => zt_chr ho x _ _) cl1 inX1 tyX1 tyX1_ok nmX1 (by decide) wf_X1_33 rfl rfl rfl rfl (Nat.le_of_ble_eq_true rfl) (fun _ _ => rfl) dX1_startNote_35 ?_
    refine zv_aload_n (pc := 38) B 1 rfl dX1_startNote_38 ?_
    refine zv_get (pc := 39) (v := .ref (b + (o + 2))) B (zat (ho.lt (by decide)) (zt_chr ho _ _ _)) cl1 inX1 0 (by decide) wf_X1_11 rfl dX1_startNote_39 ?_
    refine zv_iload (pc := 42) B 0 rfl dX1_startNote_42 ?_
    refine zv_vald (pc := 44) (jj := (zn (m_X1_lowestFree c o))) (q1 := b + (o + 3 + 2 * (zn (m_X1_lowestFree c o)))) B (zat (ho.lt (by decide)) (zt_vcs ho _ _ _)) (zn_eq (m_X1_lowestFree c o)) ((lf_lt _ _).resolve_left h1) (by decide) (if_pos ((lf_lt _ _).resolve_left h1)) dX1_startNote_44 ?_
    refine zv_iload_n (pc := 45) B 2 rfl dX1_startNote_45 ?_
    refine zv_iload_n (pc := 46) B 3 rfl dX1_startNote_46 ?_
    refine zv_iload_n (pc := 47) B 4 rfl dX1_startNote_47 ?_
    refine zv_aload (pc := 48) B 5 rfl dX1_startNote_48 ?_
    refine zv_aload_n (pc := 50) B 1 rfl dX1_startNote_50 ?_
    refine zv_get (pc := 51) (v := .int ((zup c (o + 1) 1 ((c (o + 1) 1) + 1)) (o + 1) 1)) B (zat (ho.lt (by decide)) (zt_chr ho _ _ _)) cl1 inX1 1 (by decide) wf_X1_33 rfl dX1_startNote_51 ?_
    refine zv_topi (y := (c (o + 1) 1) + 1) (by rw [zup_s]) ?_
    refine zv_callV (pc := 54) (As := [.int (nI k), .int x, .int y, .ref q, .int ((c (o + 1) 1) + 1)]) (rest := []) B (k_X5_start l E b _ _ _ _ ho ((lf_lt _ _).resolve_left h1) hk x y ((c (o + 1) 1) + 1) hy q f hq (zG.free hg (by unfold zfree; omega))) (zcwV 5 1 B wm_X1_36 wi_X5_start wv_X5_start wn_X5 wcode_X5_start rfl (by decide +kernel) ⟨(Nat.le_of_ble_eq_true rfl), (Nat.le_of_ble_eq_true rfl)⟩) rfl (zrecv B (zat (by have h9 : zn (m_X1_lowestFree c o) < 4 := ((lf_lt _ _).resolve_left h1); have := zTk.lt ho (k := 3 + 2 * (zn (m_X1_lowestFree c o))) (by omega); omega) (zt_vc ho ((lf_lt _ _).resolve_left h1) _ _ _)) cl5) zid rfl (Nat.le_of_ble_eq_true rfl) dX1_startNote_54 ⟨(Nat.le_of_ble_eq_true rfl), (Nat.le_of_ble_eq_true rfl)⟩ (fun v9 u9 hv9 => ?_)
    obtain ⟨rfl, hF2002, hg2002⟩ := hv9
    refine zv_st (st' := []) rfl ?_
    refine zv_iload (pc := 57) B 0 rfl dX1_startNote_57 ?_
    have hE3 : ((m_X1_lowestFree c o), (m_X5_start (zup c (o + 1) 1 ((c (o + 1) 1) + 1)) en ea o (zn (m_X1_lowestFree c o)) k x y ((c (o + 1) 1) + 1) q f).1, (m_X5_start (zup c (o + 1) 1 ((c (o + 1) 1) + 1)) en ea o (zn (m_X1_lowestFree c o)) k x y ((c (o + 1) 1) + 1) q f).2.1, (m_X5_start (zup c (o + 1) 1 ((c (o + 1) 1) + 1)) en ea o (zn (m_X1_lowestFree c o)) k x y ((c (o + 1) 1) + 1) q f).2.2) = m_X1_startNote c en ea o k x y q f := (by unfold m_X1_startNote; rw [if_neg h1])
    exact zv_iret (pc := 59) B ((m_X1_lowestFree c o)) hr (fun H hP => ⟨(), ⟨(congrArg (fun z => some (Value.int z.1)) hE3), Eq.subst (motive := fun z => zfr (o + 0) (o + 11) (o + 0) (o + 0) c z.2.1) hE3 (zfr.call (zfr.up zfr.refl (by omega)) hF2002 (by have h8 : zn (m_X1_lowestFree c o) < 4 := ((lf_lt _ _).resolve_left h1); omega)), Eq.subst (motive := fun z => zG z.2.1) hE3 hg2002⟩, Eq.subst (motive := fun z => zH E b z.2.1 w z.2.2.1 z.2.2.2 H) hE3 hP⟩) (Nat.le_of_ble_eq_true rfl) (Nat.le_of_ble_eq_true rfl) dX1_startNote_59
  · refine zv_aload_n (pc := 12) B 1 rfl dX1_startNote_12 ?_
    refine zv_callV (pc := 13) (As := []) (rest := []) B (k_X1_mostStealable l E b _ _ _ _ ho hg) (zcwV 0 1 B wm_X1_26 wi_X1_mostStealable wv_X1_mostStealable wn_X1 wcode_X1_mostStealable rfl (by decide +kernel) ⟨(Nat.le_of_ble_eq_true rfl), (Nat.le_of_ble_eq_true rfl)⟩) rfl (zrecv B (zat (ho.lt (by decide)) (zt_chr ho _ _ _)) cl1) zid rfl (Nat.le_of_ble_eq_true rfl) dX1_startNote_13 ⟨(Nat.le_of_ble_eq_true rfl), (Nat.le_of_ble_eq_true rfl)⟩ (fun v9 u9 hv9 => ?_)
    subst hv9
    refine zv_st (st' := [.int (m_X1_mostStealable c ea o)]) rfl ?_
    refine zv_istore (pc := 16) (L' := [(5, .int (m_X1_mostStealable c ea o)), (0, .ref (b + (o + 1))), (1, .int (nI k)), (2, .int x), (3, .int y), (4, .ref q)]) B (by decide) rfl dX1_startNote_16 ?_
    refine zv_aload_n (pc := 18) B 1 rfl dX1_startNote_18 ?_
    refine zv_dup (pc := 19) B rfl dX1_startNote_19 ?_
    refine zv_get (pc := 20) (v := .int (c (o + 1) 2)) B (zat (ho.lt (by decide)) (zt_chr ho _ _ _)) cl1 inX1 2 (by decide) wf_X1_29 rfl dX1_startNote_20 ?_
    refine zv_iconst (pc := 23) (v := 1) B rfl dX1_startNote_23 ?_
    refine zv_iadd (pc := 24) B dX1_startNote_24 ?_
    refine zs_put9 (pc := 25) (f := 2) (F := fun x9 => [.ref (b + (o + 2)), .int (x9 1), .int (x9 2)]) B zid (ho.lt (by decide)) (zt_chr_e ho) (fun x => zt_chr ho x _ _) cl1 inX1 tyX1 tyX1_ok nmX1 (by decide) wf_X1_29 rfl rfl rfl rfl (Nat.le_of_ble_eq_true rfl) (fun _ _ => rfl) dX1_startNote_25 ?_
    refine zv_aload_n (pc := 28) B 1 rfl dX1_startNote_28 ?_
    refine zv_dup (pc := 29) B rfl dX1_startNote_29 ?_
    refine zv_get (pc := 30) (v := .int ((zup c (o + 1) 2 ((c (o + 1) 2) + 1)) (o + 1) 1)) B (zat (ho.lt (by decide)) (zt_chr ho _ _ _)) cl1 inX1 1 (by decide) wf_X1_33 rfl dX1_startNote_30 ?_
    refine zv_topi (y := c (o + 1) 1) (by rw [zup_k (k := 2) (k' := 1) _ _ (by decide)]) ?_
    refine zv_iconst (pc := 33) (v := 1) B rfl dX1_startNote_33 ?_
    refine zv_iadd (pc := 34) B dX1_startNote_34 ?_
    refine zs_put9 (pc := 35) (f := 1) (F := fun x9 => [.ref (b + (o + 2)), .int (x9 1), .int (x9 2)]) B zid (ho.lt (by decide)) (zt_chr_e ho) (fun x => zt_chr ho x _ _) cl1 inX1 tyX1 tyX1_ok nmX1 (by decide) wf_X1_33 rfl rfl rfl rfl (Nat.le_of_ble_eq_true rfl) (fun _ _ => rfl) dX1_startNote_35 ?_
    refine zv_aload_n (pc := 38) B 1 rfl dX1_startNote_38 ?_
    refine zv_get (pc := 39) (v := .ref (b + (o + 2))) B (zat (ho.lt (by decide)) (zt_chr ho _ _ _)) cl1 inX1 0 (by decide) wf_X1_11 rfl dX1_startNote_39 ?_
    refine zv_iload (pc := 42) B 0 rfl dX1_startNote_42 ?_
    refine zv_vald (pc := 44) (jj := (zn (m_X1_mostStealable c ea o))) (q1 := b + (o + 3 + 2 * (zn (m_X1_mostStealable c ea o)))) B (zat (ho.lt (by decide)) (zt_vcs ho _ _ _)) (zn_eq (m_X1_mostStealable c ea o)) (ms_lt _ _ _) (by decide) (if_pos (ms_lt _ _ _)) dX1_startNote_44 ?_
    refine zv_iload_n (pc := 45) B 2 rfl dX1_startNote_45 ?_
    refine zv_iload_n (pc := 46) B 3 rfl dX1_startNote_46 ?_
    refine zv_iload_n (pc := 47) B 4 rfl dX1_startNote_47 ?_
    refine zv_aload (pc := 48) B 5 rfl dX1_startNote_48 ?_
    refine zv_aload_n (pc := 50) B 1 rfl dX1_startNote_50 ?_
    refine zv_get (pc := 51) (v := .int ((zup (zup c (o + 1) 2 ((c (o + 1) 2) + 1)) (o + 1) 1 ((c (o + 1) 1) + 1)) (o + 1) 1)) B (zat (ho.lt (by decide)) (zt_chr ho _ _ _)) cl1 inX1 1 (by decide) wf_X1_33 rfl dX1_startNote_51 ?_
    refine zv_topi (y := (c (o + 1) 1) + 1) (by rw [zup_s]) ?_
    refine zv_callV (pc := 54) (As := [.int (nI k), .int x, .int y, .ref q, .int ((c (o + 1) 1) + 1)]) (rest := []) B (k_X5_start l E b _ _ _ _ ho (ms_lt _ _ _) hk x y ((c (o + 1) 1) + 1) hy q f hq (zG.free (zG.free hg (by unfold zfree; omega)) (by unfold zfree; omega))) (zcwV 5 1 B wm_X1_36 wi_X5_start wv_X5_start wn_X5 wcode_X5_start rfl (by decide +kernel) ⟨(Nat.le_of_ble_eq_true rfl), (Nat.le_of_ble_eq_true rfl)⟩) rfl (zrecv B (zat (by have h9 : zn (m_X1_mostStealable c ea o) < 4 := (ms_lt _ _ _); have := zTk.lt ho (k := 3 + 2 * (zn (m_X1_mostStealable c ea o))) (by omega); omega) (zt_vc ho (ms_lt _ _ _) _ _ _)) cl5) zid rfl (Nat.le_of_ble_eq_true rfl) dX1_startNote_54 ⟨(Nat.le_of_ble_eq_true rfl), (Nat.le_of_ble_eq_true rfl)⟩ (fun v9 u9 hv9 => ?_)
    obtain ⟨rfl, hF2004, hg2004⟩ := hv9
    refine zv_st (st' := []) rfl ?_
    refine zv_iload (pc := 57) B 0 rfl dX1_startNote_57 ?_
    have hE5 : ((m_X1_mostStealable c ea o), (m_X5_start (zup (zup c (o + 1) 2 ((c (o + 1) 2) + 1)) (o + 1) 1 ((c (o + 1) 1) + 1)) en ea o (zn (m_X1_mostStealable c ea o)) k x y ((c (o + 1) 1) + 1) q f).1, (m_X5_start (zup (zup c (o + 1) 2 ((c (o + 1) 2) + 1)) (o + 1) 1 ((c (o + 1) 1) + 1)) en ea o (zn (m_X1_mostStealable c ea o)) k x y ((c (o + 1) 1) + 1) q f).2.1, (m_X5_start (zup (zup c (o + 1) 2 ((c (o + 1) 2) + 1)) (o + 1) 1 ((c (o + 1) 1) + 1)) en ea o (zn (m_X1_mostStealable c ea o)) k x y ((c (o + 1) 1) + 1) q f).2.2) = m_X1_startNote c en ea o k x y q f := (by unfold m_X1_startNote; rw [if_pos h1])
    exact zv_iret (pc := 59) B ((m_X1_mostStealable c ea o)) hr (fun H hP => ⟨(), ⟨(congrArg (fun z => some (Value.int z.1)) hE5), Eq.subst (motive := fun z => zfr (o + 0) (o + 11) (o + 0) (o + 0) c z.2.1) hE5 (zfr.call (zfr.up (zfr.up zfr.refl (by omega)) (by omega)) hF2004 (by have h8 : zn (m_X1_mostStealable c ea o) < 4 := (ms_lt _ _ _); omega)), Eq.subst (motive := fun z => zG z.2.1) hE5 hg2004⟩, Eq.subst (motive := fun z => zH E b z.2.1 w z.2.2.1 z.2.2.2 H) hE5 hP⟩) (Nat.le_of_ble_eq_true rfl) (Nat.le_of_ble_eq_true rfl) dX1_startNote_59

def g1_X1_copyFrom (c : Nat → Nat → Int32) (en : Nat → Nat) (ea : Nat → Nat → Int32)  : Nat → Nat → (Nat → Nat → Int32) → (Nat → Nat) → (Nat → Nat → Int32) → (Nat → (Nat → Nat → Int32) → (Nat → Nat) → (Nat → Nat → Int32) → (Nat → Nat → Int32) × (Nat → Nat) × (Nat → Nat → Int32)) → (Nat → Nat → Int32) × (Nat → Nat) × (Nat → Nat → Int32)
  | 0, i, c1, e1, a1, K => K i c1 e1 a1
  | n + 1, i, c1, e1, a1, K => g1_X1_copyFrom c en ea n (i + 1) ((m_X5_copyFrom c1 e1 a1 i).1) ((m_X5_copyFrom c1 e1 a1 i).2.1) ((m_X5_copyFrom c1 e1 a1 i).2.2) K
def m_X1_copyFrom (c : Nat → Nat → Int32) (en : Nat → Nat) (ea : Nat → Nat → Int32) : (Nat → Nat → Int32) × (Nat → Nat) × (Nat → Nat → Int32) := g1_X1_copyFrom c en ea 4 0 c en ea (fun i c1 e1 a1 => (c1, e1, a1))
set_option maxRecDepth 100000 in
set_option maxHeartbeats 4000000 in
theorem k_X1_copyFrom (l : Launch) (E : zE) (b : Nat) (c : Nat → Nat → Int32) (w : Nat → Int64) (en : Nat → Nat) (ea : Nat → Nat → Int32)  (hg : zG c) : zM l yX1_copyFrom (.code yX1_copyFrom cX1_copyFrom 3 none :: zAll) (zRm 1 0 0) E b [.ref (b + (70 + 1)), .ref (b + (34 + 1))] (zH E b c w en ea) (fun v9 (_ : Unit) => v9 = none ∧ zfr 70 81 70 70 c (m_X1_copyFrom c en ea).1 ∧ zG (m_X1_copyFrom c en ea).1) (fun _ => zH E b ((m_X1_copyFrom c en ea).1) w ((m_X1_copyFrom c en ea).2.1) ((m_X1_copyFrom c en ea).2.2)) 0 0 := by
  refine zM_of "ToneGraph$Choir" (by decide) rfl rfl (Nat.le_of_ble_eq_true rfl) (L0 := [(0, .ref (b + (70 + 1))), (1, .ref (b + (34 + 1)))]) rfl ?_
  intro p e s m args below meth c9 B hr hname
  refine zv_iconst (pc := 0) (v := 0) B rfl dX1_copyFrom_0 ?_
  refine zv_istore_n (pc := 1) (L' := [(2, .int 0), (0, .ref (b + (70 + 1))), (1, .ref (b + (34 + 1)))]) B (by decide) rfl dX1_copyFrom_1 ?_
  have loop1 : ∀ (K : Nat → (Nat → Nat → Int32) → (Nat → Nat) → (Nat → Nat → Int32) → (Nat → Nat → Int32) × (Nat → Nat) × (Nat → Nat → Int32)) (n : Nat) (i : Nat) (c1 : Nat → Nat → Int32) (e1 : Nat → Nat) (a1 : Nat → Nat → Int32), zfr 70 81 70 70 c c1 → zG c1 → i + n = 4 → g1_X1_copyFrom c en ea n i c1 e1 a1 K = m_X1_copyFrom c en ea → (∀ (i : Nat) (c1 : Nat → Nat → Int32) (e1 : Nat → Nat) (a1 : Nat → Nat → Int32), zfr 70 81 70 70 c c1 → zG c1 → i ≤ 4 → K i c1 e1 a1 = m_X1_copyFrom c en ea → zV p l e (zRm 1 0 0) s m args below meth c9 (MQ below (zQ b (fun v9 (_ : Unit) => v9 = none ∧ zfr 70 81 70 70 c (m_X1_copyFrom c en ea).1 ∧ zG (m_X1_copyFrom c en ea).1) (fun _ => zH E b ((m_X1_copyFrom c en ea).1) w ((m_X1_copyFrom c en ea).2.1) ((m_X1_copyFrom c en ea).2.2))) args s 0 0 (zA b)) 3 b (zH E b c1 w e1 a1) 28 [(0, .ref (b + (70 + 1))), (1, .ref (b + (34 + 1))), (2, .int (nI i))] [] 0 0) → zV p l e (zRm 1 0 0) s m args below meth c9 (MQ below (zQ b (fun v9 (_ : Unit) => v9 = none ∧ zfr 70 81 70 70 c (m_X1_copyFrom c en ea).1 ∧ zG (m_X1_copyFrom c en ea).1) (fun _ => zH E b ((m_X1_copyFrom c en ea).1) w ((m_X1_copyFrom c en ea).2.1) ((m_X1_copyFrom c en ea).2.2))) args s 0 0 (zA b)) 3 b (zH E b c1 w e1 a1) 2 [(0, .ref (b + (70 + 1))), (1, .ref (b + (34 + 1))), (2, .int (nI i))] [] 0 0 := by
    intro K n
    induction n with
    | zero =>
      intro i c1 e1 a1 hF1 hg1 hi hE901 hK
      refine zv_iload_n (pc := 2) B 2 rfl dX1_copyFrom_2 ?_
      refine zv_iconst (pc := 3) (v := 4) B rfl dX1_copyFrom_3 ?_
      refine zv_icmp_ge (pc := 4) (tgt := 28) B dX1_copyFrom_4 rfl (fun _ => ?_) (fun h9 => absurd ((z_le (a := 4) (b := i) rfl rfl (by omega) (by omega)).mpr (by omega)) h9)
      exact hK i c1 e1 a1 hF1 hg1 (by omega) (Eq.trans (by rw [g1_X1_copyFrom]) hE901)
    | succ n ih =>
      intro i c1 e1 a1 hF1 hg1 hi hE901 hK
      refine zv_iload_n (pc := 2) B 2 rfl dX1_copyFrom_2 ?_
      refine zv_iconst (pc := 3) (v := 4) B rfl dX1_copyFrom_3 ?_
      refine zv_icmp_ge (pc := 4) (tgt := 28) B dX1_copyFrom_4 rfl (fun h9 => absurd h9 (fun q9 => absurd ((z_le (a := 4) (b := i) rfl rfl (by omega) (by omega)).mp q9) (by omega))) (fun _ => ?_)
      refine zv_aload_n (pc := 7) B 0 rfl dX1_copyFrom_7 ?_
      refine zv_get (pc := 8) (v := .ref (b + (70 + 2))) B (zat (zTk.lt (Or.inr rfl) (by decide)) (zt_chr (Or.inr rfl) _ _ _)) cl1 inX1 0 (by decide) wf_X1_11 rfl dX1_copyFrom_8 ?_
      refine zv_iload_n (pc := 11) B 2 rfl dX1_copyFrom_11 ?_
      refine zv_vald (pc := 12) (jj := i) (q1 := b + (70 + 3 + 2 * i)) B (zat (zTk.lt (Or.inr rfl) (by decide)) (zt_vcs (Or.inr rfl) _ _ _)) rfl (by omega) (by decide) (if_pos (by omega)) dX1_copyFrom_12 ?_
      refine zv_aload_n (pc := 13) B 1 rfl dX1_copyFrom_13 ?_
      refine zv_get (pc := 14) (v := .ref (b + (34 + 2))) B (zat (zTk.lt (Or.inl rfl) (by decide)) (zt_chr (Or.inl rfl) _ _ _)) cl1 inX1 0 (by decide) wf_X1_11 rfl dX1_copyFrom_14 ?_
      refine zv_iload_n (pc := 17) B 2 rfl dX1_copyFrom_17 ?_
      refine zv_vald (pc := 18) (jj := i) (q1 := b + (34 + 3 + 2 * i)) B (zat (zTk.lt (Or.inl rfl) (by decide)) (zt_vcs (Or.inl rfl) _ _ _)) rfl (by omega) (by decide) (if_pos (by omega)) dX1_copyFrom_18 ?_
      refine zv_callV (pc := 19) (As := [.ref (b + (34 + 3 + 2 * i))]) (rest := []) B (k_X5_copyFrom l E b _ _ _ _ (by omega) hg1) (zcwV 1 0 B wm_X1_18 wi_X5_copyFrom wv_X5_copyFrom wn_X5 wcode_X5_copyFrom rfl (by decide +kernel) ⟨(Nat.le_of_ble_eq_true rfl), (Nat.le_of_ble_eq_true rfl)⟩) rfl (zrecv B (zat (by have h9 : i < 4 := (by omega); have := zTk.lt (Or.inr rfl) (k := 3 + 2 * i) (by omega); omega) (zt_vc (Or.inr rfl) (by omega) _ _ _)) cl5) zid rfl (Nat.le_of_ble_eq_true rfl) dX1_copyFrom_19 ⟨(Nat.le_of_ble_eq_true rfl), (Nat.le_of_ble_eq_true rfl)⟩ (fun v9 u9 hv9 => ?_)
      obtain ⟨rfl, hF2003, hg2003⟩ := hv9
      refine zv_st (st' := []) rfl ?_
      refine zv_iinc (pc := 22) (v := nI (i + 1)) (L' := [(2, .int (nI (i + 1))), (0, .ref (b + (70 + 1))), (1, .ref (b + (34 + 1)))]) B 2 rfl (nI_1 _) (by decide) rfl dX1_copyFrom_22 ?_
      refine zv_goto (pc := 25) (tgt := 2) B rfl dX1_copyFrom_25 ?_
      refine zv_loc (L' := [(0, .ref (b + (70 + 1))), (1, .ref (b + (34 + 1))), (2, .int (nI (i + 1)))]) [1, 2, 0] rfl ?_
      exact ih (i + 1) ((m_X5_copyFrom c1 e1 a1 i).1) ((m_X5_copyFrom c1 e1 a1 i).2.1) ((m_X5_copyFrom c1 e1 a1 i).2.2) (zfr.call hF1 hF2003 (by have h8 : i < 4 := (by omega); have h8 : i < 4 := (by omega); omega)) hg2003 (by omega) (Eq.trans (by rw [g1_X1_copyFrom]) hE901) hK
  refine zv_loc (L' := [(0, .ref (b + (70 + 1))), (1, .ref (b + (34 + 1))), (2, .int 0)]) [1, 2, 0] rfl ?_
  refine loop1 (fun i c1 e1 a1 => (c1, e1, a1)) 4 0 c en ea zfr.refl hg (by omega) (by unfold m_X1_copyFrom; rfl) ?_
  intro i c1 e1 a1 hF1 hg1 hx
  intro (hE951 : (c1, e1, a1) = m_X1_copyFrom c en ea)
  have hE4 : (c1, e1, a1) = m_X1_copyFrom c en ea := hE951
  exact zv_vret (pc := 28) B hr (fun H hP => ⟨(), ⟨rfl, Eq.subst (motive := fun z => zfr 70 81 70 70 c z.1) hE4 hF1, Eq.subst (motive := fun z => zG z.1) hE4 hg1⟩, Eq.subst (motive := fun z => zH E b z.1 w z.2.1 z.2.2 H) hE4 hP⟩) (Nat.le_of_ble_eq_true rfl) (Nat.le_of_ble_eq_true rfl) dX1_copyFrom_28
