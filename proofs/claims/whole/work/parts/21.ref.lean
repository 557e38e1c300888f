def m_X7_thrown (c : Nat → Nat → Int32) : Int32 := c 111 12
set_option maxRecDepth 100000 in
set_option maxHeartbeats 4000000 in
theorem k_X7_thrown (l : Launch) (E : zE) (b : Nat) (c : Nat → Nat → Int32) (w : Nat → Int64) (en : Nat → Nat) (ea : Nat → Nat → Int32)  : zM l yX7_thrown (.code yX7_thrown cX7_thrown 1 (some .int) :: zAll) (zRm 0 0 0) E b [.ref (b + 111)] (zH E b c w en ea) (fun v9 (_ : Unit) => v9 = some (.int (m_X7_thrown c))) (fun _ => zH E b c w en ea) 0 0 := by
  refine zM_of "ToneGraphModel" (by decide) rfl rfl (Nat.le_of_ble_eq_true rfl) (L0 := [(0, .ref (b + 111))]) rfl ?_
  intro p e s m args below meth c9 B hr hname
  refine zv_aload_n (pc := 0) B 0 rfl dX7_thrown_0 ?_
  refine zv_get (pc := 1) (v := .int (c 111 12)) B (zat (by decide) (z111 _ _ _)) cl7 inX7 12 (by decide) wf_X7_47 rfl dX7_thrown_1 ?_
  have hE1 : c 111 12 = m_X7_thrown c := (by unfold m_X7_thrown; rfl)
  exact zv_iret (pc := 4) B (c 111 12) hr (fun H hP => ⟨(), (congrArg (fun z => some (Value.int z)) hE1), hP⟩) (Nat.le_of_ble_eq_true rfl) (Nat.le_of_ble_eq_true rfl) dX7_thrown_4

def m_X7_plain (c : Nat → Nat → Int32) (x : Int32) : Int32 × (Nat → Nat → Int32) := (x, zup c 111 12 0)
set_option maxRecDepth 100000 in
set_option maxHeartbeats 4000000 in
theorem k_X7_plain (l : Launch) (E : zE) (b : Nat) (c : Nat → Nat → Int32) (w : Nat → Int64) (en : Nat → Nat) (ea : Nat → Nat → Int32) (x : Int32) (hg : zG c) : zM l yX7_plain (.code yX7_plain cX7_plain 2 (some .int) :: zAll) (zRm 0 0 0) E b [.ref (b + 111), .int x] (zH E b c w en ea) (fun v9 (_ : Unit) => v9 = some (.int (m_X7_plain c x).1) ∧ zfr 111 112 111 111 c (m_X7_plain c x).2 ∧ zG (m_X7_plain c x).2) (fun _ => zH E b ((m_X7_plain c x).2) w en ea) 0 0 := by
  refine zM_of "ToneGraphModel" (by decide) rfl rfl (Nat.le_of_ble_eq_true rfl) (L0 := [(0, .ref (b + 111)), (1, .int x)]) rfl ?_
  intro p e s m args below meth c9 B hr hname
  refine zv_aload_n (pc := 0) B 0 rfl dX7_plain_0 ?_
  refine zv_iconst (pc := 1) (v := 0) B rfl dX7_plain_1 ?_
  refine zs_put9 (pc := 2) (f := 12) (F := fun x9 => [.ref (b + 112), .ref (b + 113), .ref (b + 114), .ref (b + 115), .ref (b + 116), .ref (b + 117), .ref (b + 118), .ref (b + 119), .ref (b + 120), .ref (b + 121), .ref (b + 122), .ref (b + 123), .int (x9 12), .int (x9 13), .int (x9 14), .int (x9 15), .int (x9 16), .int (x9 17), .int (x9 18), .int (x9 19), .int (x9 20), .int (x9 21), .int (x9 22), .int (x9 23), .int (x9 24), .long (w 111)]) B zid (by decide) rfl (fun x => z111 x _ _) cl7 inX7 tyX7 tyX7_ok nmX7 (by decide) wf_X7_47 rfl rfl rfl rfl (Nat.le_of_ble_eq_true rfl) (fun _ _ => rfl) dX7_plain_2 ?_
  refine zv_iload_n (pc := 5) B 1 rfl dX7_plain_5 ?_
  have hE1 : (x, zup c 111 12 0) = m_X7_plain c x := (by unfold m_X7_plain; rfl)
  exact zv_iret (pc := 6) B (x) hr (fun H hP => ⟨(), ⟨(by rw [(zp2 hE1).1]), (by rw [(zp2 hE1).2]; exact (zfr.up zfr.refl (by omega))), (by rw [(zp2 hE1).2]; exact (zG.up hg (show zn _ ≤ zT9 from zn_T _)))⟩, (by rw [(zp2 hE1).2]; exact hP)⟩) (Nat.le_of_ble_eq_true rfl) (Nat.le_of_ble_eq_true rfl) dX7_plain_6

def m_X7_checked (c : Nat → Nat → Int32) (x : Int32) : Int32 × (Nat → Nat → Int32) := if x = 0 then (1, zup c 111 12 1) else (0, zup c 111 12 0)
set_option maxRecDepth 100000 in
set_option maxHeartbeats 4000000 in
theorem k_X7_checked (l : Launch) (E : zE) (b : Nat) (c : Nat → Nat → Int32) (w : Nat → Int64) (en : Nat → Nat) (ea : Nat → Nat → Int32) (x : Int32) (hg : zG c) : zM l yX7_checked (.code yX7_checked cX7_checked 2 (some .int) :: zAll) (zRm 0 0 0) E b [.ref (b + 111), .int x] (zH E b c w en ea) (fun v9 (_ : Unit) => v9 = some (.int (m_X7_checked c x).1) ∧ zfr 111 112 111 111 c (m_X7_checked c x).2 ∧ zG (m_X7_checked c x).2) (fun _ => zH E b ((m_X7_checked c x).2) w en ea) 0 0 := by
  refine zM_of "ToneGraphModel" (by decide) rfl rfl (Nat.le_of_ble_eq_true rfl) (L0 := [(0, .ref (b + 111)), (1, .int x)]) rfl ?_
  intro p e s m args below meth c9 B hr hname
  refine zv_aload_n (pc := 0) B 0 rfl dX7_checked_0 ?_
  refine zv_iload_n (pc := 1) B 1 rfl dX7_checked_1 ?_
  refine zv_if_eq (pc := 2) (tgt := 9) B dX7_checked_2 rfl (fun h1 => ?_) (fun h1 => ?_)
  · refine zv_iconst (pc := 9) (v := 1) B rfl dX7_checked_9 ?_
    refine zs_put9 (pc := 10) (f := 12) (F := fun x9 => [.ref (b + 112), .ref (b + 113), .ref (b + 114), .ref (b + 115), .ref (b + 116), .ref (b + 117), .ref (b + 118), .ref (b + 119), .ref (b + 120), .ref (b + 121), .ref (b + 122), .ref (b + 123), .int (x9 12), .int (x9 13), .int (x9 14), .int (x9 15), .int (x9 16), .int (x9 17), .int (x9 18), .int (x9 19), .int (x9 20), .int (x9 21), .int (x9 22), .int (x9 23), .int (x9 24), .long (w 111)]) B zid (by decide) rfl (fun x => z111 x _ _) cl7 inX7 tyX7 tyX7_ok nmX7 (by decide) wf_X7_47 rfl rfl rfl rfl (Nat.le_of_ble_eq_true rfl) (fun _ _ => rfl) dX7_checked_10 ?_
    refine zv_aload_n (pc := 13) B 0 rfl dX7_checked_13 ?_
    refine zv_get (pc := 14) (v := .int ((zup c 111 12 1) 111 12)) B (zat (by decide) (z111 _ _ _)) cl7 inX7 12 (by decide) wf_X7_47 rfl dX7_checked_14 ?_
    refine zv_topi (y := 1) (by rw [zup_s]) ?_
    have hE2 : (1, zup c 111 12 1) = m_X7_checked c x := (by unfold m_X7_checked; rw [if_pos h1])
    exact zv_iret (pc := 17) B (1) hr (fun H hP => ⟨(), ⟨(by rw [(zp2 hE2).1]), (by rw [(zp2 hE2).2]; exact (zfr.up zfr.refl (by omega))), (by rw [(zp2 hE2).2]; exact (zG.up hg (show zn _ ≤ zT9 from zn_T _)))⟩, (by rw [(zp2 hE2).2]; exact hP)⟩) (Nat.le_of_ble_eq_true rfl) (Nat.le_of_ble_eq_true rfl) dX7_checked_17
  · refine zv_iconst (pc := 5) (v := 0) B rfl dX7_checked_5 ?_
    refine zv_goto (pc := 6) (tgt := 10) B rfl dX7_checked_6 ?_
    refine zs_put9 (pc := 10) (f := 12) (F := fun x9 => [.ref (b + 112), .ref (b + 113), .ref (b + 114), .ref (b + 115), .ref (b + 116), .ref (b + 117), .ref (b + 118), .ref (b + 119), .ref (b + 120), .ref (b + 121), .ref (b + 122), .ref (b + 123), .int (x9 12), .int (x9 13), .int (x9 14), .int (x9 15), .int (x9 16), .int (x9 17), .int (x9 18), .int (x9 19), .int (x9 20), .int (x9 21), .int (x9 22), .int (x9 23), .int (x9 24), .long (w 111)]) B zid (by decide) rfl (fun x => z111 x _ _) cl7 inX7 tyX7 tyX7_ok nmX7 (by decide) wf_X7_47 rfl rfl rfl rfl (Nat.le_of_ble_eq_true rfl) (fun _ _ => rfl) dX7_checked_10 ?_
    refine zv_aload_n (pc := 13) B 0 rfl dX7_checked_13 ?_
    refine zv_get (pc := 14) (v := .int ((zup c 111 12 0) 111 12)) B (zat (by decide) (z111 _ _ _)) cl7 inX7 12 (by decide) wf_X7_47 rfl dX7_checked_14 ?_
    refine zv_topi (y := 0) (by rw [zup_s]) ?_
    have hE3 : (0, zup c 111 12 0) = m_X7_checked c x := (by unfold m_X7_checked; rw [if_neg h1])
    exact zv_iret (pc := 17) B (0) hr (fun H hP => ⟨(), ⟨(by rw [(zp2 hE3).1]), (by rw [(zp2 hE3).2]; exact (zfr.up zfr.refl (by omega))), (by rw [(zp2 hE3).2]; exact (zG.up hg (show zn _ ≤ zT9 from zn_T _)))⟩, (by rw [(zp2 hE3).2]; exact hP)⟩) (Nat.le_of_ble_eq_true rfl) (Nat.le_of_ble_eq_true rfl) dX7_checked_17

def m_X7_isNode (c : Nat → Nat → Int32) (x : Int32) : Int32 := r_X7_in x 0 ((c 111 13) - 1)
set_option maxRecDepth 100000 in
set_option maxHeartbeats 4000000 in
theorem k_X7_isNode (l : Launch) (E : zE) (b : Nat) (c : Nat → Nat → Int32) (w : Nat → Int64) (en : Nat → Nat) (ea : Nat → Nat → Int32) (x : Int32) : zM l yX7_isNode (.code yX7_isNode cX7_isNode 2 (some .boolean) :: zAll) (zRm 1 0 0) E b [.ref (b + 111), .int x] (zH E b c w en ea) (fun v9 (_ : Unit) => v9 = some (.int (m_X7_isNode c x))) (fun _ => zH E b c w en ea) 0 0 := by
  refine zM_of "ToneGraphModel" (by decide) rfl rfl (Nat.le_of_ble_eq_true rfl) (L0 := [(0, .ref (b + 111)), (1, .int x)]) rfl ?_
  intro p e s m args below meth c9 B hr hname
  refine zv_iload_n (pc := 0) B 1 rfl dX7_isNode_0 ?_
  refine zv_iconst (pc := 1) (v := 0) B rfl dX7_isNode_1 ?_
  refine zv_aload_n (pc := 2) B 0 rfl dX7_isNode_2 ?_
  refine zv_get (pc := 3) (v := .int (c 111 13)) B (zat (by decide) (z111 _ _ _)) cl7 inX7 13 (by decide) wf_X7_51 rfl dX7_isNode_3 ?_
  refine zv_iconst (pc := 6) (v := 1) B rfl dX7_isNode_6 ?_
  refine zv_isub (pc := 7) B dX7_isNode_7 ?_
  refine zv_callS (pc := 8) (As := [.int x, .int 0, .int ((c 111 13) - 1)]) (rest := []) B (k_X7_in l E b x 0 ((c 111 13) - 1)) (zcwS 3 0 B wm_X7_94 ws_X7_in wn_X7 wcode_X7_in (by decide +kernel) ⟨(Nat.le_of_ble_eq_true rfl), (Nat.le_of_ble_eq_true rfl)⟩) rfl zid rfl (Nat.le_of_ble_eq_true rfl) dX7_isNode_8 ⟨(Nat.le_of_ble_eq_true rfl), (Nat.le_of_ble_eq_true rfl)⟩ (fun v9 u9 hv9 => ?_)
  subst hv9
  refine zv_st (st' := [.int (r_X7_in x 0 ((c 111 13) - 1))]) rfl ?_
  have hE1 : r_X7_in x 0 ((c 111 13) - 1) = m_X7_isNode c x := (by unfold m_X7_isNode; rfl)
  exact zv_zret (pc := 11) B (r_X7_in x 0 ((c 111 13) - 1)) (znb (r_X7_in_01 _ _ _)) hr (fun H hP => ⟨(), (congrArg (fun z => some (Value.int z)) hE1), hP⟩) (Nat.le_of_ble_eq_true rfl) (Nat.le_of_ble_eq_true rfl) dX7_isNode_11

def m_X7_at (c : Nat → Nat → Int32) (v k : Nat) : Int32 := c 112 ((640 + (16 * v)) + k)
set_option maxRecDepth 100000 in
set_option maxHeartbeats 4000000 in
theorem k_X7_at (l : Launch) (E : zE) (b : Nat) (c : Nat → Nat → Int32) (w : Nat → Int64) (en : Nat → Nat) (ea : Nat → Nat → Int32) {v : Nat} (hv : v < 4) {k : Nat} (hk : k < 16) : zM l yX7_at (.code yX7_at cX7_at 3 (some .int) :: zAll) (zRm 0 0 0) E b [.ref (b + 111), .int (nI v), .int (nI k)] (zH E b c w en ea) (fun v9 (_ : Unit) => v9 = some (.int (m_X7_at c v k))) (fun _ => zH E b c w en ea) 0 0 := by
  refine zM_of "ToneGraphModel" (by decide) rfl rfl (Nat.le_of_ble_eq_true rfl) (L0 := [(0, .ref (b + 111)), (1, .int (nI v)), (2, .int (nI k))]) rfl ?_
  intro p e s m args below meth c9 B hr hname
  refine zv_aload_n (pc := 0) B 0 rfl dX7_at_0 ?_
  refine zv_get (pc := 1) (v := .ref (b + 112)) B (zat (by decide) (z111 _ _ _)) cl7 inX7 0 (by decide) wf_X7_7 rfl dX7_at_1 ?_
  refine zv_sipush (pc := 4) (v := 640) B rfl dX7_at_4 ?_
  refine zv_bipush (pc := 7) (v := 16) B rfl dX7_at_7 ?_
  refine zv_iload_n (pc := 9) B 1 rfl dX7_at_9 ?_
  refine zv_imul (pc := 10) B dX7_at_10 ?_
  refine zv_topi (y := nI (16 * v)) (pk_mul 16 v) ?_
  refine zv_iadd (pc := 11) B dX7_at_11 ?_
  refine zv_topi (y := nI (640 + (16 * v))) (nI_add 640 (16 * v)) ?_
  refine zv_iload_n (pc := 12) B 2 rfl dX7_at_12 ?_
  refine zv_iadd (pc := 13) B dX7_at_13 ?_
  refine zv_topi (y := nI ((640 + (16 * v)) + k)) (nI_add (640 + (16 * v)) k) ?_
  refine zv_iald (pc := 14) (jj := ((640 + (16 * v)) + k)) B (zat (by decide) (z112 _ _ _)) rfl (by omega) (by decide) dX7_at_14 ?_
  have hE1 : c 112 ((640 + (16 * v)) + k) = m_X7_at c v k := (by unfold m_X7_at; rfl)
  exact zv_iret (pc := 15) B (c 112 ((640 + (16 * v)) + k)) hr (fun H hP => ⟨(), (congrArg (fun z => some (Value.int z)) hE1), hP⟩) (Nat.le_of_ble_eq_true rfl) (Nat.le_of_ble_eq_true rfl) dX7_at_15

def m_X7_lay (c : Nat → Nat → Int32) (v k : Nat) (x : Int32) : (Nat → Nat → Int32) := zup c 112 ((640 + (16 * v)) + k) x
set_option maxRecDepth 100000 in
set_option maxHeartbeats 4000000 in
theorem k_X7_lay (l : Launch) (E : zE) (b : Nat) (c : Nat → Nat → Int32) (w : Nat → Int64) (en : Nat → Nat) (ea : Nat → Nat → Int32) {v : Nat} (hv : v < 4) {k : Nat} (hk : k < 16) (x : Int32) (hg : zG c) : zM l yX7_lay (.code yX7_lay cX7_lay 4 none :: zAll) (zRm 0 0 0) E b [.ref (b + 111), .int (nI v), .int (nI k), .int x] (zH E b c w en ea) (fun v9 (_ : Unit) => v9 = none ∧ zfr 112 113 112 112 c (m_X7_lay c v k x) ∧ zG (m_X7_lay c v k x)) (fun _ => zH E b (m_X7_lay c v k x) w en ea) 0 0 := by
  refine zM_of "ToneGraphModel" (by decide) rfl rfl (Nat.le_of_ble_eq_true rfl) (L0 := [(0, .ref (b + 111)), (1, .int (nI v)), (2, .int (nI k)), (3, .int x)]) rfl ?_
  intro p e s m args below meth c9 B hr hname
  refine zv_aload_n (pc := 0) B 0 rfl dX7_lay_0 ?_
  refine zv_get (pc := 1) (v := .ref (b + 112)) B (zat (by decide) (z111 _ _ _)) cl7 inX7 0 (by decide) wf_X7_7 rfl dX7_lay_1 ?_
  refine zv_sipush (pc := 4) (v := 640) B rfl dX7_lay_4 ?_
  refine zv_bipush (pc := 7) (v := 16) B rfl dX7_lay_7 ?_
  refine zv_iload_n (pc := 9) B 1 rfl dX7_lay_9 ?_
  refine zv_imul (pc := 10) B dX7_lay_10 ?_
  refine zv_topi (y := nI (16 * v)) (pk_mul 16 v) ?_
  refine zv_iadd (pc := 11) B dX7_lay_11 ?_
  refine zv_topi (y := nI (640 + (16 * v))) (nI_add 640 (16 * v)) ?_
  refine zv_iload_n (pc := 12) B 2 rfl dX7_lay_12 ?_
  refine zv_iadd (pc := 13) B dX7_lay_13 ?_
  refine zv_topi (y := nI ((640 + (16 * v)) + k)) (nI_add (640 + (16 * v)) k) ?_
  refine zv_iload_n (pc := 14) B 3 rfl dX7_lay_14 ?_
  refine zs_iast (pc := 15) (jj := ((640 + (16 * v)) + k)) B zid (by decide) rfl (fun x w e => z112 x w e) rfl (by omega) (by decide) dX7_lay_15 ?_
  have hE1 : zup c 112 ((640 + (16 * v)) + k) x = m_X7_lay c v k x := (by unfold m_X7_lay; rfl)
  exact zv_vret (pc := 16) B hr (fun H hP => ⟨(), ⟨rfl, Eq.subst (motive := fun z => zfr 112 113 112 112 c z) hE1 (zfr.up zfr.refl (by omega)), Eq.subst (motive := fun z => zG z) hE1 (zG.npl hg (by omega))⟩, Eq.subst (motive := fun z => zH E b z w en ea H) hE1 hP⟩) (Nat.le_of_ble_eq_true rfl) (Nat.le_of_ble_eq_true rfl) dX7_lay_16

def m_X7_plays (c : Nat → Nat → Int32) (v : Nat) : Int32 := if (m_X7_at c v 0) = 1 then 1 else 0
set_option maxRecDepth 100000 in
set_option maxHeartbeats 4000000 in
theorem k_X7_plays (l : Launch) (E : zE) (b : Nat) (c : Nat → Nat → Int32) (w : Nat → Int64) (en : Nat → Nat) (ea : Nat → Nat → Int32) {v : Nat} (hv : v < 4) : zM l yX7_plays (.code yX7_plays cX7_plays 2 (some .boolean) :: zAll) (zRm 1 0 0) E b [.ref (b + 111), .int (nI v)] (zH E b c w en ea) (fun v9 (_ : Unit) => v9 = some (.int (m_X7_plays c v))) (fun _ => zH E b c w en ea) 0 0 := by
  refine zM_of "ToneGraphModel" (by decide) rfl rfl (Nat.le_of_ble_eq_true rfl) (L0 := [(0, .ref (b + 111)), (1, .int (nI v))]) rfl ?_
  intro p e s m args below meth c9 B hr hname
  refine zv_aload_n (pc := 0) B 0 rfl dX7_plays_0 ?_
  refine zv_iload_n (pc := 1) B 1 rfl dX7_plays_1 ?_
  refine zv_iconst (pc := 2) (v := 0) B rfl dX7_plays_2 ?_
  refine zv_st (st' := [.int (nI 0), .int (nI v), .ref (b + 111)]) rfl ?_
  refine zv_callV (pc := 3) (As := [.int (nI v), .int (nI 0)]) (rest := []) B (k_X7_at (k := 0) l E b _ _ _ _  hv (by decide)) (zcwV 2 0 B wm_X7_132 wi_X7_at wv_X7_at wn_X7 wcode_X7_at rfl (by decide +kernel) ⟨(Nat.le_of_ble_eq_true rfl), (Nat.le_of_ble_eq_true rfl)⟩) rfl (zrecv B (zat (by decide) (z111 _ _ _)) cl7) zid rfl (Nat.le_of_ble_eq_true rfl) dX7_plays_3 ⟨(Nat.le_of_ble_eq_true rfl), (Nat.le_of_ble_eq_true rfl)⟩ (fun v9 u9 hv9 => ?_)
  subst hv9
  refine zv_st (st' := [.int (m_X7_at c v 0)]) rfl ?_
  refine zv_iconst (pc := 6) (v := 1) B rfl dX7_plays_6 ?_
  refine zv_icmp_ne (pc := 7) (tgt := 14) B dX7_plays_7 rfl (fun h1 => ?_) (fun h1 => ?_)
  · refine zv_iconst (pc := 14) (v := 0) B rfl dX7_plays_14 ?_
    have hE2 : 0 = m_X7_plays c v := (by unfold m_X7_plays; rw [if_neg h1])
    exact zv_zret (pc := 15) B (0) rfl hr (fun H hP => ⟨(), (congrArg (fun z => some (Value.int z)) hE2), hP⟩) (Nat.le_of_ble_eq_true rfl) (Nat.le_of_ble_eq_true rfl) dX7_plays_15
  · refine zv_iconst (pc := 10) (v := 1) B rfl dX7_plays_10 ?_
    refine zv_goto (pc := 11) (tgt := 15) B rfl dX7_plays_11 ?_
    have hE3 : 1 = m_X7_plays c v := (by unfold m_X7_plays; rw [if_pos h1])
    exact zv_zret (pc := 15) B (1) rfl hr (fun H hP => ⟨(), (congrArg (fun z => some (Value.int z)) hE3), hP⟩) (Nat.le_of_ble_eq_true rfl) (Nat.le_of_ble_eq_true rfl) dX7_plays_15

def m_X7_isReleased (c : Nat → Nat → Int32) (v : Nat) : Int32 := if (m_X7_plays c v) = 0 then 0 else (if (m_X7_at c v 1) = 1 then 1 else 0)
set_option maxRecDepth 100000 in
set_option maxHeartbeats 4000000 in
theorem k_X7_isReleased (l : Launch) (E : zE) (b : Nat) (c : Nat → Nat → Int32) (w : Nat → Int64) (en : Nat → Nat) (ea : Nat → Nat → Int32) {v : Nat} (hv : v < 4) : zM l yX7_isReleased (.code yX7_isReleased cX7_isReleased 2 (some .boolean) :: zAll) (zRm 2 0 0) E b [.ref (b + 111), .int (nI v)] (zH E b c w en ea) (fun v9 (_ : Unit) => v9 = some (.int (m_X7_isReleased c v))) (fun _ => zH E b c w en ea) 0 0 := by
  refine zM_of "ToneGraphModel" (by decide) rfl rfl (Nat.le_of_ble_eq_true rfl) (L0 := [(0, .ref (b + 111)), (1, .int (nI v))]) rfl ?_
  intro p e s m args below meth c9 B hr hname
  refine zv_aload_n (pc := 0) B 0 rfl dX7_isReleased_0 ?_
  refine zv_iload_n (pc := 1) B 1 rfl dX7_isReleased_1 ?_
  refine zv_callV (pc := 2) (As := [.int (nI v)]) (rest := []) B (k_X7_plays l E b _ _ _ _  hv) (zcwV 1 1 B wm_X7_135 wi_X7_plays wv_X7_plays wn_X7 wcode_X7_plays rfl (by decide +kernel) ⟨(Nat.le_of_ble_eq_true rfl), (Nat.le_of_ble_eq_true rfl)⟩) rfl (zrecv B (zat (by decide) (z111 _ _ _)) cl7) zid rfl (Nat.le_of_ble_eq_true rfl) dX7_isReleased_2 ⟨(Nat.le_of_ble_eq_true rfl), (Nat.le_of_ble_eq_true rfl)⟩ (fun v9 u9 hv9 => ?_)
  subst hv9
  refine zv_st (st' := [.int (m_X7_plays c v)]) rfl ?_
  refine zv_if_eq (pc := 5) (tgt := 22) B dX7_isReleased_5 rfl (fun h1 => ?_) (fun h1 => ?_)
  · refine zv_iconst (pc := 22) (v := 0) B rfl dX7_isReleased_22 ?_
    have hE2 : 0 = m_X7_isReleased c v := (by unfold m_X7_isReleased; rw [if_pos h1])
    exact zv_zret (pc := 23) B (0) rfl hr (fun H hP => ⟨(), (congrArg (fun z => some (Value.int z)) hE2), hP⟩) (Nat.le_of_ble_eq_true rfl) (Nat.le_of_ble_eq_true rfl) dX7_isReleased_23
  · refine zv_aload_n (pc := 8) B 0 rfl dX7_isReleased_8 ?_
    refine zv_iload_n (pc := 9) B 1 rfl dX7_isReleased_9 ?_
    refine zv_iconst (pc := 10) (v := 1) B rfl dX7_isReleased_10 ?_
    refine zv_st (st' := [.int (nI 1), .int (nI v), .ref (b + 111)]) rfl ?_
    refine zv_callV (pc := 11) (As := [.int (nI v), .int (nI 1)]) (rest := []) B (k_X7_at (k := 1) l E b _ _ _ _  hv (by decide)) (zcwV 2 0 B wm_X7_132 wi_X7_at wv_X7_at wn_X7 wcode_X7_at rfl (by decide +kernel) ⟨(Nat.le_of_ble_eq_true rfl), (Nat.le_of_ble_eq_true rfl)⟩) rfl (zrecv B (zat (by decide) (z111 _ _ _)) cl7) zid rfl (Nat.le_of_ble_eq_true rfl) dX7_isReleased_11 ⟨(Nat.le_of_ble_eq_true rfl), (Nat.le_of_ble_eq_true rfl)⟩ (fun v9 u9 hv9 => ?_)
    subst hv9
    refine zv_st (st' := [.int (m_X7_at c v 1)]) rfl ?_
    refine zv_iconst (pc := 14) (v := 1) B rfl dX7_isReleased_14 ?_
    refine zv_icmp_ne (pc := 15) (tgt := 22) B dX7_isReleased_15 rfl (fun h3 => ?_) (fun h3 => ?_)
    · refine zv_iconst (pc := 22) (v := 0) B rfl dX7_isReleased_22 ?_
      have hE4 : 0 = m_X7_isReleased c v := (by unfold m_X7_isReleased; rw [if_neg h1, if_neg h3])
      exact zv_zret (pc := 23) B (0) rfl hr (fun H hP => ⟨(), (congrArg (fun z => some (Value.int z)) hE4), hP⟩) (Nat.le_of_ble_eq_true rfl) (Nat.le_of_ble_eq_true rfl) dX7_isReleased_23
    · refine zv_iconst (pc := 18) (v := 1) B rfl dX7_isReleased_18 ?_
      refine zv_goto (pc := 19) (tgt := 23) B rfl dX7_isReleased_19 ?_
      have hE5 : 1 = m_X7_isReleased c v := (by unfold m_X7_isReleased; rw [if_neg h1, if_pos h3])
      exact zv_zret (pc := 23) B (1) rfl hr (fun H hP => ⟨(), (congrArg (fun z => some (Value.int z)) hE5), hP⟩) (Nat.le_of_ble_eq_true rfl) (Nat.le_of_ble_eq_true rfl) dX7_isReleased_23

def m_X7_isHeld (c : Nat → Nat → Int32) (v : Nat) : Int32 := if (m_X7_plays c v) = 0 then 0 else (if (m_X7_at c v 1) = 0 then 1 else 0)
set_option maxRecDepth 100000 in
set_option maxHeartbeats 4000000 in
theorem k_X7_isHeld (l : Launch) (E : zE) (b : Nat) (c : Nat → Nat → Int32) (w : Nat → Int64) (en : Nat → Nat) (ea : Nat → Nat → Int32) {v : Nat} (hv : v < 4) : zM l yX7_isHeld (.code yX7_isHeld cX7_isHeld 2 (some .boolean) :: zAll) (zRm 2 0 0) E b [.ref (b + 111), .int (nI v)] (zH E b c w en ea) (fun v9 (_ : Unit) => v9 = some (.int (m_X7_isHeld c v))) (fun _ => zH E b c w en ea) 0 0 := by
  refine zM_of "ToneGraphModel" (by decide) rfl rfl (Nat.le_of_ble_eq_true rfl) (L0 := [(0, .ref (b + 111)), (1, .int (nI v))]) rfl ?_
  intro p e s m args below meth c9 B hr hname
  refine zv_aload_n (pc := 0) B 0 rfl dX7_isHeld_0 ?_
  refine zv_iload_n (pc := 1) B 1 rfl dX7_isHeld_1 ?_
  refine zv_callV (pc := 2) (As := [.int (nI v)]) (rest := []) B (k_X7_plays l E b _ _ _ _  hv) (zcwV 1 1 B wm_X7_135 wi_X7_plays wv_X7_plays wn_X7 wcode_X7_plays rfl (by decide +kernel) ⟨(Nat.le_of_ble_eq_true rfl), (Nat.le_of_ble_eq_true rfl)⟩) rfl (zrecv B (zat (by decide) (z111 _ _ _)) cl7) zid rfl (Nat.le_of_ble_eq_true rfl) dX7_isHeld_2 ⟨(Nat.le_of_ble_eq_true rfl), (Nat.le_of_ble_eq_true rfl)⟩ (fun v9 u9 hv9 => ?_)
  subst hv9
  refine zv_st (st' := [.int (m_X7_plays c v)]) rfl ?_
  refine zv_if_eq (pc := 5) (tgt := 21) B dX7_isHeld_5 rfl (fun h1 => ?_) (fun h1 => ?_)
  · refine zv_iconst (pc := 21) (v := 0) B rfl dX7_isHeld_21 ?_
    have hE2 : 0 = m_X7_isHeld c v := (by unfold m_X7_isHeld; rw [if_pos h1])
    exact zv_zret (pc := 22) B (0) rfl hr (fun H hP => ⟨(), (congrArg (fun z => some (Value.int z)) hE2), hP⟩) (Nat.le_of_ble_eq_true rfl) (Nat.le_of_ble_eq_true rfl) dX7_isHeld_22
  · refine zv_aload_n (pc := 8) B 0 rfl dX7_isHeld_8 ?_
    refine zv_iload_n (pc := 9) B 1 rfl dX7_isHeld_9 ?_
    refine zv_iconst (pc := 10) (v := 1) B rfl dX7_isHeld_10 ?_
    refine zv_st (st' := [.int (nI 1), .int (nI v), .ref (b + 111)]) rfl ?_
    refine zv_callV (pc := 11) (As := [.int (nI v), .int (nI 1)]) (rest := []) B (k_X7_at (k := 1) l E b _ _ _ _  hv (by decide)) (zcwV 2 0 B wm_X7_132 wi_X7_at wv_X7_at wn_X7 wcode_X7_at rfl (by decide +kernel) ⟨(Nat.le_of_ble_eq_true rfl), (Nat.le_of_ble_eq_true rfl)⟩) rfl (zrecv B (zat (by decide) (z111 _ _ _)) cl7) zid rfl (Nat.le_of_ble_eq_true rfl) dX7_isHeld_11 ⟨(Nat.le_of_ble_eq_true rfl), (Nat.le_of_ble_eq_true rfl)⟩ (fun v9 u9 hv9 => ?_)
    subst hv9
    refine zv_st (st' := [.int (m_X7_at c v 1)]) rfl ?_
    refine zv_if_ne (pc := 14) (tgt := 21) B dX7_isHeld_14 rfl (fun h3 => ?_) (fun h3 => ?_)
    · refine zv_iconst (pc := 21) (v := 0) B rfl dX7_isHeld_21 ?_
      have hE4 : 0 = m_X7_isHeld c v := (by unfold m_X7_isHeld; rw [if_neg h1, if_neg h3])
      exact zv_zret (pc := 22) B (0) rfl hr (fun H hP => ⟨(), (congrArg (fun z => some (Value.int z)) hE4), hP⟩) (Nat.le_of_ble_eq_true rfl) (Nat.le_of_ble_eq_true rfl) dX7_isHeld_22
    · refine zv_iconst (pc := 17) (v := 1) B rfl dX7_isHeld_17 ?_
      refine zv_goto (pc := 18) (tgt := 22) B rfl dX7_isHeld_18 ?_
      have hE5 : 1 = m_X7_isHeld c v := (by unfold m_X7_isHeld; rw [if_neg h1, if_pos h3])
      exact zv_zret (pc := 22) B (1) rfl hr (fun H hP => ⟨(), (congrArg (fun z => some (Value.int z)) hE5), hP⟩) (Nat.le_of_ble_eq_true rfl) (Nat.le_of_ble_eq_true rfl) dX7_isHeld_22

def g1_X7_sounding (c : Nat → Nat → Int32)  : Nat → Nat → Int32 → (Nat → Int32 → Int32 × (Nat → Nat → Int32)) → Int32 × (Nat → Nat → Int32)
  | 0, i, x, K => K i x
  | n + 1, i, x, K => if (m_X7_plays c i) = 0 then (g1_X7_sounding c n (i + 1) (x + 0) K) else (g1_X7_sounding c n (i + 1) (x + 1) K)
def m_X7_sounding (c : Nat → Nat → Int32) : Int32 × (Nat → Nat → Int32) := g1_X7_sounding c 4 0 0 (fun i x => ((m_X7_plain c x).1, (m_X7_plain c x).2))
set_option maxRecDepth 100000 in
set_option maxHeartbeats 4000000 in
theorem k_X7_sounding (l : Launch) (E : zE) (b : Nat) (c : Nat → Nat → Int32) (w : Nat → Int64) (en : Nat → Nat) (ea : Nat → Nat → Int32)  (hg : zG c) : zM l yX7_sounding (.code yX7_sounding cX7_sounding 3 (some .int) :: zAll) (zRm 2 0 0) E b [.ref (b + 111)] (zH E b c w en ea) (fun v9 (_ : Unit) => v9 = some (.int (m_X7_sounding c).1) ∧ zfr 111 112 111 111 c (m_X7_sounding c).2 ∧ zG (m_X7_sounding c).2) (fun _ => zH E b ((m_X7_sounding c).2) w en ea) 0 0 := by
  refine zM_of "ToneGraphModel" (by decide) rfl rfl (Nat.le_of_ble_eq_true rfl) (L0 := [(0, .ref (b + 111))]) rfl ?_
  intro p e s m args below meth c9 B hr hname
  refine zv_iconst (pc := 0) (v := 0) B rfl dX7_sounding_0 ?_
  refine zv_istore_n (pc := 1) (L' := [(1, .int 0), (0, .ref (b + 111))]) B (by decide) rfl dX7_sounding_1 ?_
  refine zv_iconst (pc := 2) (v := 0) B rfl dX7_sounding_2 ?_
  refine zv_istore_n (pc := 3) (L' := [(2, .int 0), (1, .int 0), (0, .ref (b + 111))]) B (by decide) rfl dX7_sounding_3 ?_
  have loop1 : ∀ (K : Nat → Int32 → Int32 × (Nat → Nat → Int32)) (n : Nat) (i : Nat) (x : Int32), i + n = 4 → g1_X7_sounding c n i x K = m_X7_sounding c → (∀ (i : Nat) (x : Int32), i ≤ 4 → K i x = m_X7_sounding c → zV p l e (zRm 2 0 0) s m args below meth c9 (MQ below (zQ b (fun v9 (_ : Unit) => v9 = some (.int (m_X7_sounding c).1) ∧ zfr 111 112 111 111 c (m_X7_sounding c).2 ∧ zG (m_X7_sounding c).2) (fun _ => zH E b ((m_X7_sounding c).2) w en ea)) args s 0 0 (zA b)) 3 b (zH E b c w en ea) 31 [(0, .ref (b + 111)), (2, .int (nI i)), (1, .int x)] [] 0 0) → zV p l e (zRm 2 0 0) s m args below meth c9 (MQ below (zQ b (fun v9 (_ : Unit) => v9 = some (.int (m_X7_sounding c).1) ∧ zfr 111 112 111 111 c (m_X7_sounding c).2 ∧ zG (m_X7_sounding c).2) (fun _ => zH E b ((m_X7_sounding c).2) w en ea)) args s 0 0 (zA b)) 3 b (zH E b c w en ea) 4 [(0, .ref (b + 111)), (2, .int (nI i)), (1, .int x)] [] 0 0 := by
    intro K n
    induction n with
    | zero =>
      intro i x hi hE901 hK
      refine zv_iload_n (pc := 4) B 1 rfl dX7_sounding_4 ?_
      refine zv_iconst (pc := 5) (v := 4) B rfl dX7_sounding_5 ?_
      refine zv_icmp_ge (pc := 6) (tgt := 31) B dX7_sounding_6 rfl (fun _ => ?_) (fun h9 => absurd ((z_le (a := 4) (b := i) rfl rfl (by omega) (by omega)).mpr (by omega)) h9)
      exact hK i x  (by omega) (Eq.trans (by rw [g1_X7_sounding]) hE901)
    | succ n ih =>
      intro i x hi hE901 hK
      refine zv_iload_n (pc := 4) B 1 rfl dX7_sounding_4 ?_
      refine zv_iconst (pc := 5) (v := 4) B rfl dX7_sounding_5 ?_
      refine zv_icmp_ge (pc := 6) (tgt := 31) B dX7_sounding_6 rfl (fun h9 => absurd h9 (fun q9 => absurd ((z_le (a := 4) (b := i) rfl rfl (by omega) (by omega)).mp q9) (by omega))) (fun _ => ?_)
      refine zv_iload_n (pc := 9) B 2 rfl dX7_sounding_9 ?_
      refine zv_aload_n (pc := 10) B 0 rfl dX7_sounding_10 ?_
      refine zv_iload_n (pc := 11) B 1 rfl dX7_sounding_11 ?_
      refine zv_callV (pc := 12) (As := [.int (nI i)]) (rest := [.int x]) B (k_X7_plays l E b _ _ _ _  (by omega)) (zcwV 1 1 B wm_X7_135 wi_X7_plays wv_X7_plays wn_X7 wcode_X7_plays rfl (by decide +kernel) ⟨(Nat.le_of_ble_eq_true rfl), (Nat.le_of_ble_eq_true rfl)⟩) rfl (zrecv B (zat (by decide) (z111 _ _ _)) cl7) zid rfl (Nat.le_of_ble_eq_true rfl) dX7_sounding_12 ⟨(Nat.le_of_ble_eq_true rfl), (Nat.le_of_ble_eq_true rfl)⟩ (fun v9 u9 hv9 => ?_)
      subst hv9
      refine zv_st (st' := [.int (m_X7_plays c i), .int x]) rfl ?_
      refine zv_if_eq (pc := 15) (tgt := 22) B dX7_sounding_15 rfl (fun h3 => ?_) (fun h3 => ?_)
      · refine zv_iconst (pc := 22) (v := 0) B rfl dX7_sounding_22 ?_
        refine zv_iadd (pc := 23) B dX7_sounding_23 ?_
        refine zv_istore_n (pc := 24) (L' := [(1, .int (x + 0)), (0, .ref (b + 111)), (2, .int (nI i))]) B (by decide) rfl dX7_sounding_24 ?_
        refine zv_iinc (pc := 25) (v := nI (i + 1)) (L' := [(2, .int (nI (i + 1))), (1, .int (x + 0)), (0, .ref (b + 111))]) B 2 rfl (nI_1 _) (by decide) rfl dX7_sounding_25 ?_
        refine zv_goto (pc := 28) (tgt := 4) B rfl dX7_sounding_28 ?_
        refine zv_loc (L' := [(0, .ref (b + 111)), (2, .int (nI (i + 1))), (1, .int (x + 0))]) [2, 0, 1] rfl ?_
        exact ih (i + 1) (x + 0)  (by omega) (Eq.trans (by rw [g1_X7_sounding, if_pos h3]) hE901) hK
      · refine zv_iconst (pc := 18) (v := 1) B rfl dX7_sounding_18 ?_
        refine zv_goto (pc := 19) (tgt := 23) B rfl dX7_sounding_19 ?_
        refine zv_iadd (pc := 23) B dX7_sounding_23 ?_
        refine zv_istore_n (pc := 24) (L' := [(1, .int (x + 1)), (0, .ref (b + 111)), (2, .int (nI i))]) B (by decide) rfl dX7_sounding_24 ?_
        refine zv_iinc (pc := 25) (v := nI (i + 1)) (L' := [(2, .int (nI (i + 1))), (1, .int (x + 1)), (0, .ref (b + 111))]) B 2 rfl (nI_1 _) (by decide) rfl dX7_sounding_25 ?_
        refine zv_goto (pc := 28) (tgt := 4) B rfl dX7_sounding_28 ?_
        refine zv_loc (L' := [(0, .ref (b + 111)), (2, .int (nI (i + 1))), (1, .int (x + 1))]) [2, 0, 1] rfl ?_
        exact ih (i + 1) (x + 1)  (by omega) (Eq.trans (by rw [g1_X7_sounding, if_neg h3]) hE901) hK
  refine zv_loc (L' := [(0, .ref (b + 111)), (2, .int 0), (1, .int 0)]) [2, 0, 1] rfl ?_
  refine loop1 (fun i x => ((m_X7_plain c x).1, (m_X7_plain c x).2)) 4 0 0  (by omega) (by unfold m_X7_sounding; rfl) ?_
  intro i x hx
  intro (hE951 : ((m_X7_plain c x).1, (m_X7_plain c x).2) = m_X7_sounding c)
  refine zv_aload_n (pc := 31) B 0 rfl dX7_sounding_31 ?_
  refine zv_iload_n (pc := 32) B 2 rfl dX7_sounding_32 ?_
  refine zv_callV (pc := 33) (As := [.int x]) (rest := []) B (k_X7_plain l E b _ _ _ _  x hg) (zcwV 1 0 B wm_X7_125 wi_X7_plain wv_X7_plain wn_X7 wcode_X7_plain rfl (by decide +kernel) ⟨(Nat.le_of_ble_eq_true rfl), (Nat.le_of_ble_eq_true rfl)⟩) rfl (zrecv B (zat (by decide) (z111 _ _ _)) cl7) zid rfl (Nat.le_of_ble_eq_true rfl) dX7_sounding_33 ⟨(Nat.le_of_ble_eq_true rfl), (Nat.le_of_ble_eq_true rfl)⟩ (fun v9 u9 hv9 => ?_)
  obtain ⟨rfl, hF2004, hg2004⟩ := hv9
  refine zv_st (st' := [.int ((m_X7_plain c x).1)]) rfl ?_
  have hE5 : ((m_X7_plain c x).1, (m_X7_plain c x).2) = m_X7_sounding c := hE951
  exact zv_iret (pc := 36) B ((m_X7_plain c x).1) hr (fun H hP => ⟨(), ⟨(by rw [(zp2 hE5).1]), (by rw [(zp2 hE5).2]; exact (zfr.call zfr.refl hF2004 (by omega))), (by rw [(zp2 hE5).2]; exact hg2004)⟩, (by rw [(zp2 hE5).2]; exact hP)⟩) (Nat.le_of_ble_eq_true rfl) (Nat.le_of_ble_eq_true rfl) dX7_sounding_36

def g1_X7_wire (c : Nat → Nat → Int32) (x : Int32) (t : Nat)  : Nat → Nat → (Nat → Int32) → Int32
  | 0, i, K => K i
  | n + 1, i, K => if (c 118 ((4 * t) + i)) = x then (nI i) else (g1_X7_wire c x t n (i + 1) K)
def m_X7_wire (c : Nat → Nat → Int32) (x : Int32) (t : Nat) : Int32 := g1_X7_wire c x t (zn (c 120 t)) 0 (fun i => (-1))
set_option maxRecDepth 100000 in
set_option maxHeartbeats 4000000 in
theorem k_X7_wire (l : Launch) (E : zE) (b : Nat) (c : Nat → Nat → Int32) (w : Nat → Int64) (en : Nat → Nat) (ea : Nat → Nat → Int32) (x : Int32) {t : Nat} (ht : t < 10) (hg : zG c) : zM l yX7_wire (.code yX7_wire cX7_wire 4 (some .int) :: zAll) (zRm 0 0 0) E b [.ref (b + 111), .int x, .int (nI t)] (zH E b c w en ea) (fun v9 (_ : Unit) => v9 = some (.int (m_X7_wire c x t))) (fun _ => zH E b c w en ea) 0 0 := by
  refine zM_of "ToneGraphModel" (by decide) rfl rfl (Nat.le_of_ble_eq_true rfl) (L0 := [(0, .ref (b + 111)), (1, .int x), (2, .int (nI t))]) rfl ?_
  intro p e s m args below meth c9 B hr hname
  have hN : zn (c 120 t) ≤ 4 := hg 120 t
  refine zv_iconst (pc := 0) (v := 0) B rfl dX7_wire_0 ?_
  refine zv_istore_n (pc := 1) (L' := [(3, .int 0), (0, .ref (b + 111)), (1, .int x), (2, .int (nI t))]) B (by decide) rfl dX7_wire_1 ?_
  have loop1 : ∀ (K : Nat → Int32) (n : Nat) (i : Nat), i + n = zn (c 120 t) → g1_X7_wire c x t n i K = m_X7_wire c x t → (∀ (i : Nat), i ≤ zn (c 120 t) → K i = m_X7_wire c x t → zV p l e (zRm 0 0 0) s m args below meth c9 (MQ below (zQ b (fun v9 (_ : Unit) => v9 = some (.int (m_X7_wire c x t))) (fun _ => zH E b c w en ea)) args s 0 0 (zA b)) 4 b (zH E b c w en ea) 34 [(0, .ref (b + 111)), (1, .int x), (2, .int (nI t)), (3, .int (nI i))] [] 0 0) → zV p l e (zRm 0 0 0) s m args below meth c9 (MQ below (zQ b (fun v9 (_ : Unit) => v9 = some (.int (m_X7_wire c x t))) (fun _ => zH E b c w en ea)) args s 0 0 (zA b)) 4 b (zH E b c w en ea) 2 [(0, .ref (b + 111)), (1, .int x), (2, .int (nI t)), (3, .int (nI i))] [] 0 0 := by
    intro K n
    induction n with
    | zero =>
      intro i hi hE901 hK
      refine zv_iload_n (pc := 2) B 3 rfl dX7_wire_2 ?_
      refine zv_aload_n (pc := 3) B 0 rfl dX7_wire_3 ?_
      refine zv_get (pc := 4) (v := .ref (b + 120)) B (zat (by decide) (z111 _ _ _)) cl7 inX7 8 (by decide) wf_X7_34 rfl dX7_wire_4 ?_
      refine zv_iload_n (pc := 7) B 2 rfl dX7_wire_7 ?_
      refine zv_iald (pc := 8) (jj := t) B (zat (by decide) (z120 _ _ _)) rfl ht (by decide) dX7_wire_8 ?_
      refine zv_icmp_ge (pc := 9) (tgt := 34) B dX7_wire_9 rfl (fun _ => ?_) (fun h9 => absurd ((z_le (a := (zn (c 120 t))) (b := i) (zn_eq (c 120 t)) rfl (by have h8 := (show zn _ ≤ 4 from hg 120 t); omega) (by have h8 := (show zn _ ≤ 4 from hg 120 t); omega)).mpr (by have h8 := (show zn _ ≤ 4 from hg 120 t); omega)) h9)
      exact hK i  (by omega) (Eq.trans (by rw [g1_X7_wire]) hE901)
    | succ n ih =>
      intro i hi hE901 hK
      refine zv_iload_n (pc := 2) B 3 rfl dX7_wire_2 ?_
      refine zv_aload_n (pc := 3) B 0 rfl dX7_wire_3 ?_
      refine zv_get (pc := 4) (v := .ref (b + 120)) B (zat (by decide) (z111 _ _ _)) cl7 inX7 8 (by decide) wf_X7_34 rfl dX7_wire_4 ?_
      refine zv_iload_n (pc := 7) B 2 rfl dX7_wire_7 ?_
      refine zv_iald (pc := 8) (jj := t) B (zat (by decide) (z120 _ _ _)) rfl ht (by decide) dX7_wire_8 ?_
      refine zv_icmp_ge (pc := 9) (tgt := 34) B dX7_wire_9 rfl (fun h9 => absurd h9 (fun q9 => absurd ((z_le (a := (zn (c 120 t))) (b := i) (zn_eq (c 120 t)) rfl (by have h8 := (show zn _ ≤ 4 from hg 120 t); omega) (by have h8 := (show zn _ ≤ 4 from hg 120 t); omega)).mp q9) (by have h8 := (show zn _ ≤ 4 from hg 120 t); omega))) (fun _ => ?_)
      refine zv_aload_n (pc := 12) B 0 rfl dX7_wire_12 ?_
      refine zv_get (pc := 13) (v := .ref (b + 118)) B (zat (by decide) (z111 _ _ _)) cl7 inX7 6 (by decide) wf_X7_28 rfl dX7_wire_13 ?_
      refine zv_iconst (pc := 16) (v := 4) B rfl dX7_wire_16 ?_
      refine zv_iload_n (pc := 17) B 2 rfl dX7_wire_17 ?_
      refine zv_imul (pc := 18) B dX7_wire_18 ?_
      refine zv_topi (y := nI (4 * t)) (pk_mul 4 t) ?_
      refine zv_iload_n (pc := 19) B 3 rfl dX7_wire_19 ?_
      refine zv_iadd (pc := 20) B dX7_wire_20 ?_
      refine zv_topi (y := nI ((4 * t) + i)) (nI_add (4 * t) i) ?_
      refine zv_iald (pc := 21) (jj := ((4 * t) + i)) B (zat (by decide) (z118 _ _ _)) rfl (by omega) (by decide) dX7_wire_21 ?_
      refine zv_iload_n (pc := 22) B 1 rfl dX7_wire_22 ?_
      refine zv_icmp_ne (pc := 23) (tgt := 28) B dX7_wire_23 rfl (fun h3 => ?_) (fun h3 => ?_)
      · refine zv_iinc (pc := 28) (v := nI (i + 1)) (L' := [(3, .int (nI (i + 1))), (0, .ref (b + 111)), (1, .int x), (2, .int (nI t))]) B 3 rfl (nI_1 _) (by decide) rfl dX7_wire_28 ?_
        refine zv_goto (pc := 31) (tgt := 2) B rfl dX7_wire_31 ?_
        refine zv_loc (L' := [(0, .ref (b + 111)), (1, .int x), (2, .int (nI t)), (3, .int (nI (i + 1)))]) [1, 2, 3, 0] rfl ?_
        exact ih (i + 1)  (by omega) (Eq.trans (by rw [g1_X7_wire, if_neg h3]) hE901) hK
      · refine zv_iload_n (pc := 26) B 3 rfl dX7_wire_26 ?_
        have hE4 : nI i = m_X7_wire c x t := (Eq.trans (by rw [g1_X7_wire, if_pos h3]) hE901)
        exact zv_iret (pc := 27) B (nI i) hr (fun H hP => ⟨(), (congrArg (fun z => some (Value.int z)) hE4), hP⟩) (Nat.le_of_ble_eq_true rfl) (Nat.le_of_ble_eq_true rfl) dX7_wire_27
  refine zv_loc (L' := [(0, .ref (b + 111)), (1, .int x), (2, .int (nI t)), (3, .int 0)]) [1, 2, 3, 0] rfl ?_
  refine loop1 (fun i => (-1)) (zn (c 120 t)) 0  (by omega) (by unfold m_X7_wire; rfl) ?_
  intro i hx
  intro (hE951 : (-1) = m_X7_wire c x t)
  refine zv_iconst (pc := 34) (v := (-1)) B rfl dX7_wire_34 ?_
  have hE5 : (-1) = m_X7_wire c x t := hE951
  exact zv_iret (pc := 35) B ((-1)) hr (fun H hP => ⟨(), (congrArg (fun z => some (Value.int z)) hE5), hP⟩) (Nat.le_of_ble_eq_true rfl) (Nat.le_of_ble_eq_true rfl) dX7_wire_35

def g1_X7_canCome (c : Nat → Nat → Int32) (t : Nat)  : Nat → Nat → (Nat → Int32) → Int32
  | 0, i, K => K i
  | n + 1, i, K => if (c 114 t) = 2 then (K i) else (if (c 123 (zn (c 118 ((4 * t) + i)))) = 0 then 0 else (g1_X7_canCome c t n (i + 1) K))
def m_X7_canCome (c : Nat → Nat → Int32) (t : Nat) : Int32 := if (c 123 t) = 0 then (g1_X7_canCome c t (zn (c 120 t)) 0 (fun i => 1)) else 0
set_option maxRecDepth 100000 in
set_option maxHeartbeats 4000000 in
theorem k_X7_canCome (l : Launch) (E : zE) (b : Nat) (c : Nat → Nat → Int32) (w : Nat → Int64) (en : Nat → Nat) (ea : Nat → Nat → Int32) {t : Nat} (ht : t < 10) (hg : zG c) : zM l yX7_canCome (.code yX7_canCome cX7_canCome 3 (some .boolean) :: zAll) (zRm 0 0 0) E b [.ref (b + 111), .int (nI t)] (zH E b c w en ea) (fun v9 (_ : Unit) => v9 = some (.int (m_X7_canCome c t))) (fun _ => zH E b c w en ea) 0 0 := by
  refine zM_of "ToneGraphModel" (by decide) rfl rfl (Nat.le_of_ble_eq_true rfl) (L0 := [(0, .ref (b + 111)), (1, .int (nI t))]) rfl ?_
  intro p e s m args below meth c9 B hr hname
  have hN : zn (c 120 t) ≤ 4 := hg 120 t
  refine zv_aload_n (pc := 0) B 0 rfl dX7_canCome_0 ?_
  refine zv_get (pc := 1) (v := .ref (b + 123)) B (zat (by decide) (z111 _ _ _)) cl7 inX7 11 (by decide) wf_X7_43 rfl dX7_canCome_1 ?_
  refine zv_iload_n (pc := 4) B 1 rfl dX7_canCome_4 ?_
  refine zv_zald (pc := 5) (jj := t) B (zat (by decide) (z123 _ _ _)) rfl ht (by decide) dX7_canCome_5 ?_
  refine zv_if_eq (pc := 6) (tgt := 11) B dX7_canCome_6 rfl (fun h1 => ?_) (fun h1 => ?_)
  · refine zv_iconst (pc := 11) (v := 0) B rfl dX7_canCome_11 ?_
    refine zv_istore_n (pc := 12) (L' := [(2, .int 0), (0, .ref (b + 111)), (1, .int (nI t))]) B (by decide) rfl dX7_canCome_12 ?_
    have loop1 : ∀ (K : Nat → Int32) (n : Nat) (i : Nat), i + n = zn (c 120 t) → g1_X7_canCome c t n i K = m_X7_canCome c t → (∀ (i : Nat), i ≤ zn (c 120 t) → K i = m_X7_canCome c t → zV p l e (zRm 0 0 0) s m args below meth c9 (MQ below (zQ b (fun v9 (_ : Unit) => v9 = some (.int (m_X7_canCome c t))) (fun _ => zH E b c w en ea)) args s 0 0 (zA b)) 3 b (zH E b c w en ea) 59 [(0, .ref (b + 111)), (1, .int (nI t)), (2, .int (nI i))] [] 0 0) → zV p l e (zRm 0 0 0) s m args below meth c9 (MQ below (zQ b (fun v9 (_ : Unit) => v9 = some (.int (m_X7_canCome c t))) (fun _ => zH E b c w en ea)) args s 0 0 (zA b)) 3 b (zH E b c w en ea) 13 [(0, .ref (b + 111)), (1, .int (nI t)), (2, .int (nI i))] [] 0 0 := by
      intro K n
      induction n with
      | zero =>
        intro i hi hE901 hK
        refine zv_iload_n (pc := 13) B 2 rfl dX7_canCome_13 ?_
        refine zv_aload_n (pc := 14) B 0 rfl dX7_canCome_14 ?_
        refine zv_get (pc := 15) (v := .ref (b + 120)) B (zat (by decide) (z111 _ _ _)) cl7 inX7 8 (by decide) wf_X7_34 rfl dX7_canCome_15 ?_
        refine zv_iload_n (pc := 18) B 1 rfl dX7_canCome_18 ?_
        refine zv_iald (pc := 19) (jj := t) B (zat (by decide) (z120 _ _ _)) rfl ht (by decide) dX7_canCome_19 ?_
        refine zv_icmp_ge (pc := 20) (tgt := 59) B dX7_canCome_20 rfl (fun _ => ?_) (fun h9 => absurd ((z_le (a := (zn (c 120 t))) (b := i) (zn_eq (c 120 t)) rfl (by have h8 := (show zn _ ≤ 4 from hg 120 t); omega) (by have h8 := (show zn _ ≤ 4 from hg 120 t); omega)).mpr (by have h8 := (show zn _ ≤ 4 from hg 120 t); omega)) h9)
        exact hK i  (by omega) (Eq.trans (by rw [g1_X7_canCome]) hE901)
      | succ n ih =>
        intro i hi hE901 hK
        refine zv_iload_n (pc := 13) B 2 rfl dX7_canCome_13 ?_
        refine zv_aload_n (pc := 14) B 0 rfl dX7_canCome_14 ?_
        refine zv_get (pc := 15) (v := .ref (b + 120)) B (zat (by decide) (z111 _ _ _)) cl7 inX7 8 (by decide) wf_X7_34 rfl dX7_canCome_15 ?_
        refine zv_iload_n (pc := 18) B 1 rfl dX7_canCome_18 ?_
        refine zv_iald (pc := 19) (jj := t) B (zat (by decide) (z120 _ _ _)) rfl ht (by decide) dX7_canCome_19 ?_
        refine zv_icmp_ge (pc := 20) (tgt := 59) B dX7_canCome_20 rfl (fun h9 => absurd h9 (fun q9 => absurd ((z_le (a := (zn (c 120 t))) (b := i) (zn_eq (c 120 t)) rfl (by have h8 := (show zn _ ≤ 4 from hg 120 t); omega) (by have h8 := (show zn _ ≤ 4 from hg 120 t); omega)).mp q9) (by have h8 := (show zn _ ≤ 4 from hg 120 t); omega))) (fun _ => ?_)
        refine zv_aload_n (pc := 23) B 0 rfl dX7_canCome_23 ?_
        refine zv_get (pc := 24) (v := .ref (b + 114)) B (zat (by decide) (z111 _ _ _)) cl7 inX7 2 (by decide) wf_X7_16 rfl dX7_canCome_24 ?_
        refine zv_iload_n (pc := 27) B 1 rfl dX7_canCome_27 ?_
        refine zv_iald (pc := 28) (jj := t) B (zat (by decide) (z114 _ _ _)) rfl ht (by decide) dX7_canCome_28 ?_
        refine zv_iconst (pc := 29) (v := 2) B rfl dX7_canCome_29 ?_
        refine zv_icmp_eq (pc := 30) (tgt := 59) B dX7_canCome_30 rfl (fun h4 => ?_) (fun h4 => ?_)
        · exact hK i  (by omega) (Eq.trans (by rw [g1_X7_canCome, if_pos h4]) hE901)
        · refine zv_aload_n (pc := 33) B 0 rfl dX7_canCome_33 ?_
          refine zv_get (pc := 34) (v := .ref (b + 123)) B (zat (by decide) (z111 _ _ _)) cl7 inX7 11 (by decide) wf_X7_43 rfl dX7_canCome_34 ?_
          refine zv_aload_n (pc := 37) B 0 rfl dX7_canCome_37 ?_
          refine zv_get (pc := 38) (v := .ref (b + 118)) B (zat (by decide) (z111 _ _ _)) cl7 inX7 6 (by decide) wf_X7_28 rfl dX7_canCome_38 ?_
          refine zv_iconst (pc := 41) (v := 4) B rfl dX7_canCome_41 ?_
          refine zv_iload_n (pc := 42) B 1 rfl dX7_canCome_42 ?_
          refine zv_imul (pc := 43) B dX7_canCome_43 ?_
          refine zv_topi (y := nI (4 * t)) (pk_mul 4 t) ?_
          refine zv_iload_n (pc := 44) B 2 rfl dX7_canCome_44 ?_
          refine zv_iadd (pc := 45) B dX7_canCome_45 ?_
          refine zv_topi (y := nI ((4 * t) + i)) (nI_add (4 * t) i) ?_
          refine zv_iald (pc := 46) (jj := ((4 * t) + i)) B (zat (by decide) (z118 _ _ _)) rfl (by omega) (by decide) dX7_canCome_46 ?_
          refine zv_zald (pc := 47) (jj := (zn (c 118 ((4 * t) + i)))) B (zat (by decide) (z123 _ _ _)) (zn_eq (c 118 ((4 * t) + i))) (by have h8 := (show zn _ ≤ 9 from hg 118 ((4 * t) + i)); omega) (by decide) dX7_canCome_47 ?_
          refine zv_if_ne (pc := 48) (tgt := 53) B dX7_canCome_48 rfl (fun h5 => ?_) (fun h5 => ?_)
          · refine zv_iinc (pc := 53) (v := nI (i + 1)) (L' := [(2, .int (nI (i + 1))), (0, .ref (b + 111)), (1, .int (nI t))]) B 2 rfl (nI_1 _) (by decide) rfl dX7_canCome_53 ?_
            refine zv_goto (pc := 56) (tgt := 13) B rfl dX7_canCome_56 ?_
            refine zv_loc (L' := [(0, .ref (b + 111)), (1, .int (nI t)), (2, .int (nI (i + 1)))]) [1, 2, 0] rfl ?_
            exact ih (i + 1)  (by omega) (Eq.trans (by rw [g1_X7_canCome, if_neg h4, if_neg h5]) hE901) hK
          · refine zv_iconst (pc := 51) (v := 0) B rfl dX7_canCome_51 ?_
            have hE6 : 0 = m_X7_canCome c t := (Eq.trans (by rw [g1_X7_canCome, if_neg h4, if_pos h5]) hE901)
            exact zv_zret (pc := 52) B (0) rfl hr (fun H hP => ⟨(), (congrArg (fun z => some (Value.int z)) hE6), hP⟩) (Nat.le_of_ble_eq_true rfl) (Nat.le_of_ble_eq_true rfl) dX7_canCome_52
    refine zv_loc (L' := [(0, .ref (b + 111)), (1, .int (nI t)), (2, .int 0)]) [1, 2, 0] rfl ?_
    refine loop1 (fun i => 1) (zn (c 120 t)) 0  (by omega) (by unfold m_X7_canCome; rw [if_pos h1]) ?_
    intro i hx
    intro (hE951 : 1 = m_X7_canCome c t)
    refine zv_iconst (pc := 59) (v := 1) B rfl dX7_canCome_59 ?_
    have hE7 : 1 = m_X7_canCome c t := hE951
    exact zv_zret (pc := 60) B (1) rfl hr (fun H hP => ⟨(), (congrArg (fun z => some (Value.int z)) hE7), hP⟩) (Nat.le_of_ble_eq_true rfl) (Nat.le_of_ble_eq_true rfl) dX7_canCome_60
  · refine zv_iconst (pc := 9) (v := 0) B rfl dX7_canCome_9 ?_
    have hE8 : 0 = m_X7_canCome c t := (by unfold m_X7_canCome; rw [if_neg h1])
    exact zv_zret (pc := 10) B (0) rfl hr (fun H hP => ⟨(), (congrArg (fun z => some (Value.int z)) hE8), hP⟩) (Nat.le_of_ble_eq_true rfl) (Nat.le_of_ble_eq_true rfl) dX7_canCome_10

def g1_X7_longestBlock (c : Nat → Nat → Int32)  : Nat → Nat → Int32 → (Nat → Int32 → Int32 × (Nat → Nat → Int32)) → Int32 × (Nat → Nat → Int32)
  | 0, i, x, K => K i x
  | n + 1, i, x, K => if (c 114 i) = 2 then (if x ≤ (c 115 i) then (g1_X7_longestBlock c n (i + 1) x K) else (g1_X7_longestBlock c n (i + 1) (c 115 i) K)) else (g1_X7_longestBlock c n (i + 1) x K)
def m_X7_longestBlock (c : Nat → Nat → Int32) : Int32 × (Nat → Nat → Int32) := g1_X7_longestBlock c (zn (c 111 13)) 0 64 (fun i x => ((m_X7_plain c x).1, (m_X7_plain c x).2))
set_option maxRecDepth 100000 in
set_option maxHeartbeats 4000000 in
theorem k_X7_longestBlock (l : Launch) (E : zE) (b : Nat) (c : Nat → Nat → Int32) (w : Nat → Int64) (en : Nat → Nat) (ea : Nat → Nat → Int32)  (hg : zG c) : zM l yX7_longestBlock (.code yX7_longestBlock cX7_longestBlock 3 (some .int) :: zAll) (zRm 1 0 0) E b [.ref (b + 111)] (zH E b c w en ea) (fun v9 (_ : Unit) => v9 = some (.int (m_X7_longestBlock c).1) ∧ zfr 111 112 111 111 c (m_X7_longestBlock c).2 ∧ zG (m_X7_longestBlock c).2) (fun _ => zH E b ((m_X7_longestBlock c).2) w en ea) 0 0 := by
  refine zM_of "ToneGraphModel" (by decide) rfl rfl (Nat.le_of_ble_eq_true rfl) (L0 := [(0, .ref (b + 111))]) rfl ?_
  intro p e s m args below meth c9 B hr hname
  have hcn : zn (c 111 13) ≤ 10 := hg 111 13
  refine zv_bipush (pc := 0) (v := 64) B rfl dX7_longestBlock_0 ?_
  refine zv_istore_n (pc := 2) (L' := [(1, .int 64), (0, .ref (b + 111))]) B (by decide) rfl dX7_longestBlock_2 ?_
  refine zv_iconst (pc := 3) (v := 0) B rfl dX7_longestBlock_3 ?_
  refine zv_istore_n (pc := 4) (L' := [(2, .int 0), (1, .int 64), (0, .ref (b + 111))]) B (by decide) rfl dX7_longestBlock_4 ?_
  have loop1 : ∀ (K : Nat → Int32 → Int32 × (Nat → Nat → Int32)) (n : Nat) (i : Nat) (x : Int32), i + n = zn (c 111 13) → g1_X7_longestBlock c n i x K = m_X7_longestBlock c → (∀ (i : Nat) (x : Int32), i ≤ zn (c 111 13) → K i x = m_X7_longestBlock c → zV p l e (zRm 1 0 0) s m args below meth c9 (MQ below (zQ b (fun v9 (_ : Unit) => v9 = some (.int (m_X7_longestBlock c).1) ∧ zfr 111 112 111 111 c (m_X7_longestBlock c).2 ∧ zG (m_X7_longestBlock c).2) (fun _ => zH E b ((m_X7_longestBlock c).2) w en ea)) args s 0 0 (zA b)) 3 b (zH E b c w en ea) 50 [(0, .ref (b + 111)), (2, .int (nI i)), (1, .int x)] [] 0 0) → zV p l e (zRm 1 0 0) s m args below meth c9 (MQ below (zQ b (fun v9 (_ : Unit) => v9 = some (.int (m_X7_longestBlock c).1) ∧ zfr 111 112 111 111 c (m_X7_longestBlock c).2 ∧ zG (m_X7_longestBlock c).2) (fun _ => zH E b ((m_X7_longestBlock c).2) w en ea)) args s 0 0 (zA b)) 3 b (zH E b c w en ea) 5 [(0, .ref (b + 111)), (2, .int (nI i)), (1, .int x)] [] 0 0 := by
    intro K n
    induction n with
    | zero =>
      intro i x hi hE901 hK
      refine zv_iload_n (pc := 5) B 1 rfl dX7_longestBlock_5 ?_
      refine zv_aload_n (pc := 6) B 0 rfl dX7_longestBlock_6 ?_
      refine zv_get (pc := 7) (v := .int (c 111 13)) B (zat (by decide) (z111 _ _ _)) cl7 inX7 13 (by decide) wf_X7_51 rfl dX7_longestBlock_7 ?_
      refine zv_icmp_ge (pc := 10) (tgt := 50) B dX7_longestBlock_10 rfl (fun _ => ?_) (fun h9 => absurd ((z_le (a := (zn (c 111 13))) (b := i) (zn_eq (c 111 13)) rfl (by have h8 := (show zn _ ≤ 10 from hg 111 13); omega) (by have h8 := (show zn _ ≤ 10 from hg 111 13); omega)).mpr (by have h8 := (show zn _ ≤ 10 from hg 111 13); omega)) h9)
      exact hK i x  (by omega) (Eq.trans (by rw [g1_X7_longestBlock]) hE901)
    | succ n ih =>
      intro i x hi hE901 hK
      refine zv_iload_n (pc := 5) B 1 rfl dX7_longestBlock_5 ?_
      refine zv_aload_n (pc := 6) B 0 rfl dX7_longestBlock_6 ?_
      refine zv_get (pc := 7) (v := .int (c 111 13)) B (zat (by decide) (z111 _ _ _)) cl7 inX7 13 (by decide) wf_X7_51 rfl dX7_longestBlock_7 ?_
      refine zv_icmp_ge (pc := 10) (tgt := 50) B dX7_longestBlock_10 rfl (fun h9 => absurd h9 (fun q9 => absurd ((z_le (a := (zn (c 111 13))) (b := i) (zn_eq (c 111 13)) rfl (by have h8 := (show zn _ ≤ 10 from hg 111 13); omega) (by have h8 := (show zn _ ≤ 10 from hg 111 13); omega)).mp q9) (by have h8 := (show zn _ ≤ 10 from hg 111 13); omega))) (fun _ => ?_)
      refine zv_aload_n (pc := 13) B 0 rfl dX7_longestBlock_13 ?_
      refine zv_get (pc := 14) (v := .ref (b + 114)) B (zat (by decide) (z111 _ _ _)) cl7 inX7 2 (by decide) wf_X7_16 rfl dX7_longestBlock_14 ?_
      refine zv_iload_n (pc := 17) B 1 rfl dX7_longestBlock_17 ?_
      refine zv_iald (pc := 18) (jj := i) B (zat (by decide) (z114 _ _ _)) rfl (by omega) (by decide) dX7_longestBlock_18 ?_
      refine zv_iconst (pc := 19) (v := 2) B rfl dX7_longestBlock_19 ?_
      refine zv_icmp_ne (pc := 20) (tgt := 42) B dX7_longestBlock_20 rfl (fun h3 => ?_) (fun h3 => ?_)
      · refine zv_iload_n (pc := 42) B 2 rfl dX7_longestBlock_42 ?_
        refine zv_istore_n (pc := 43) (L' := [(1, .int x), (0, .ref (b + 111)), (2, .int (nI i))]) B (by decide) rfl dX7_longestBlock_43 ?_
        refine zv_iinc (pc := 44) (v := nI (i + 1)) (L' := [(2, .int (nI (i + 1))), (1, .int x), (0, .ref (b + 111))]) B 2 rfl (nI_1 _) (by decide) rfl dX7_longestBlock_44 ?_
        refine zv_goto (pc := 47) (tgt := 5) B rfl dX7_longestBlock_47 ?_
        refine zv_loc (L' := [(0, .ref (b + 111)), (2, .int (nI (i + 1))), (1, .int x)]) [2, 0, 1] rfl ?_
        exact ih (i + 1) x  (by omega) (Eq.trans (by rw [g1_X7_longestBlock, if_neg h3]) hE901) hK
      · refine zv_aload_n (pc := 23) B 0 rfl dX7_longestBlock_23 ?_
        refine zv_get (pc := 24) (v := .ref (b + 115)) B (zat (by decide) (z111 _ _ _)) cl7 inX7 3 (by decide) wf_X7_19 rfl dX7_longestBlock_24 ?_
        refine zv_iload_n (pc := 27) B 1 rfl dX7_longestBlock_27 ?_
        refine zv_iald (pc := 28) (jj := i) B (zat (by decide) (z115 _ _ _)) rfl (by omega) (by decide) dX7_longestBlock_28 ?_
        refine zv_iload_n (pc := 29) B 2 rfl dX7_longestBlock_29 ?_
        refine zv_icmp_ge (pc := 30) (tgt := 42) B dX7_longestBlock_30 rfl (fun h4 => ?_) (fun h4 => ?_)
        · refine zv_iload_n (pc := 42) B 2 rfl dX7_longestBlock_42 ?_
          refine zv_istore_n (pc := 43) (L' := [(1, .int x), (0, .ref (b + 111)), (2, .int (nI i))]) B (by decide) rfl dX7_longestBlock_43 ?_
          refine zv_iinc (pc := 44) (v := nI (i + 1)) (L' := [(2, .int (nI (i + 1))), (1, .int x), (0, .ref (b + 111))]) B 2 rfl (nI_1 _) (by decide) rfl dX7_longestBlock_44 ?_
          refine zv_goto (pc := 47) (tgt := 5) B rfl dX7_longestBlock_47 ?_
          refine zv_loc (L' := [(0, .ref (b + 111)), (2, .int (nI (i + 1))), (1, .int x)]) [2, 0, 1] rfl ?_
          exact ih (i + 1) x  (by omega) (Eq.trans (by rw [g1_X7_longestBlock, if_pos h3, if_pos h4]) hE901) hK
        · refine zv_aload_n (pc := 33) B 0 rfl dX7_longestBlock_33 ?_
          refine zv_get (pc := 34) (v := .ref (b + 115)) B (zat (by decide) (z111 _ _ _)) cl7 inX7 3 (by decide) wf_X7_19 rfl dX7_longestBlock_34 ?_
          refine zv_iload_n (pc := 37) B 1 rfl dX7_longestBlock_37 ?_
          refine zv_iald (pc := 38) (jj := i) B (zat (by decide) (z115 _ _ _)) rfl (by omega) (by decide) dX7_longestBlock_38 ?_
          refine zv_goto (pc := 39) (tgt := 43) B rfl dX7_longestBlock_39 ?_
          refine zv_istore_n (pc := 43) (L' := [(1, .int (c 115 i)), (0, .ref (b + 111)), (2, .int (nI i))]) B (by decide) rfl dX7_longestBlock_43 ?_
          refine zv_iinc (pc := 44) (v := nI (i + 1)) (L' := [(2, .int (nI (i + 1))), (1, .int (c 115 i)), (0, .ref (b + 111))]) B 2 rfl (nI_1 _) (by decide) rfl dX7_longestBlock_44 ?_
          refine zv_goto (pc := 47) (tgt := 5) B rfl dX7_longestBlock_47 ?_
          refine zv_loc (L' := [(0, .ref (b + 111)), (2, .int (nI (i + 1))), (1, .int (c 115 i))]) [2, 0, 1] rfl ?_
          exact ih (i + 1) (c 115 i)  (by omega) (Eq.trans (by rw [g1_X7_longestBlock, if_pos h3, if_neg h4]) hE901) hK
  refine zv_loc (L' := [(0, .ref (b + 111)), (2, .int 0), (1, .int 64)]) [2, 0, 1] rfl ?_
  refine loop1 (fun i x => ((m_X7_plain c x).1, (m_X7_plain c x).2)) (zn (c 111 13)) 0 64  (by omega) (by unfold m_X7_longestBlock; rfl) ?_
  intro i x hx
  intro (hE951 : ((m_X7_plain c x).1, (m_X7_plain c x).2) = m_X7_longestBlock c)
  refine zv_aload_n (pc := 50) B 0 rfl dX7_longestBlock_50 ?_
  refine zv_iload_n (pc := 51) B 2 rfl dX7_longestBlock_51 ?_
  refine zv_callV (pc := 52) (As := [.int x]) (rest := []) B (k_X7_plain l E b _ _ _ _  x hg) (zcwV 1 0 B wm_X7_125 wi_X7_plain wv_X7_plain wn_X7 wcode_X7_plain rfl (by decide +kernel) ⟨(Nat.le_of_ble_eq_true rfl), (Nat.le_of_ble_eq_true rfl)⟩) rfl (zrecv B (zat (by decide) (z111 _ _ _)) cl7) zid rfl (Nat.le_of_ble_eq_true rfl) dX7_longestBlock_52 ⟨(Nat.le_of_ble_eq_true rfl), (Nat.le_of_ble_eq_true rfl)⟩ (fun v9 u9 hv9 => ?_)
  obtain ⟨rfl, hF2005, hg2005⟩ := hv9
  refine zv_st (st' := [.int ((m_X7_plain c x).1)]) rfl ?_
  have hE6 : ((m_X7_plain c x).1, (m_X7_plain c x).2) = m_X7_longestBlock c := hE951
  exact zv_iret (pc := 55) B ((m_X7_plain c x).1) hr (fun H hP => ⟨(), ⟨(by rw [(zp2 hE6).1]), (by rw [(zp2 hE6).2]; exact (zfr.call zfr.refl hF2005 (by omega))), (by rw [(zp2 hE6).2]; exact hg2005)⟩, (by rw [(zp2 hE6).2]; exact hP)⟩) (Nat.le_of_ble_eq_true rfl) (Nat.le_of_ble_eq_true rfl) dX7_longestBlock_55

def m_X7_nodes (c : Nat → Nat → Int32) : Int32 × (Nat → Nat → Int32) := ((m_X7_plain c (c 111 13)).1, (m_X7_plain c (c 111 13)).2)
set_option maxRecDepth 100000 in
set_option maxHeartbeats 4000000 in
theorem k_X7_nodes (l : Launch) (E : zE) (b : Nat) (c : Nat → Nat → Int32) (w : Nat → Int64) (en : Nat → Nat) (ea : Nat → Nat → Int32)  (hg : zG c) : zM l yX7_nodes (.code yX7_nodes cX7_nodes 1 (some .int) :: zAll) (zRm 1 0 0) E b [.ref (b + 111)] (zH E b c w en ea) (fun v9 (_ : Unit) => v9 = some (.int (m_X7_nodes c).1) ∧ zfr 111 112 111 111 c (m_X7_nodes c).2 ∧ zG (m_X7_nodes c).2) (fun _ => zH E b ((m_X7_nodes c).2) w en ea) 0 0 := by
  refine zM_of "ToneGraphModel" (by decide) rfl rfl (Nat.le_of_ble_eq_true rfl) (L0 := [(0, .ref (b + 111))]) rfl ?_
  intro p e s m args below meth c9 B hr hname
  refine zv_aload_n (pc := 0) B 0 rfl dX7_nodes_0 ?_
  refine zv_aload_n (pc := 1) B 0 rfl dX7_nodes_1 ?_
  refine zv_get (pc := 2) (v := .int (c 111 13)) B (zat (by decide) (z111 _ _ _)) cl7 inX7 13 (by decide) wf_X7_51 rfl dX7_nodes_2 ?_
  refine zv_callV (pc := 5) (As := [.int (c 111 13)]) (rest := []) B (k_X7_plain l E b _ _ _ _  (c 111 13) hg) (zcwV 1 0 B wm_X7_125 wi_X7_plain wv_X7_plain wn_X7 wcode_X7_plain rfl (by decide +kernel) ⟨(Nat.le_of_ble_eq_true rfl), (Nat.le_of_ble_eq_true rfl)⟩) rfl (zrecv B (zat (by decide) (z111 _ _ _)) cl7) zid rfl (Nat.le_of_ble_eq_true rfl) dX7_nodes_5 ⟨(Nat.le_of_ble_eq_true rfl), (Nat.le_of_ble_eq_true rfl)⟩ (fun v9 u9 hv9 => ?_)
  obtain ⟨rfl, hF2001, hg2001⟩ := hv9
  refine zv_st (st' := [.int ((m_X7_plain c (c 111 13)).1)]) rfl ?_
  have hE2 : ((m_X7_plain c (c 111 13)).1, (m_X7_plain c (c 111 13)).2) = m_X7_nodes c := (by unfold m_X7_nodes; rfl)
  exact zv_iret (pc := 8) B ((m_X7_plain c (c 111 13)).1) hr (fun H hP => ⟨(), ⟨(by rw [(zp2 hE2).1]), (by rw [(zp2 hE2).2]; exact (zfr.call zfr.refl hF2001 (by omega))), (by rw [(zp2 hE2).2]; exact hg2001)⟩, (by rw [(zp2 hE2).2]; exact hP)⟩) (Nat.le_of_ble_eq_true rfl) (Nat.le_of_ble_eq_true rfl) dX7_nodes_8

def m_X7_stolen (c : Nat → Nat → Int32) : Int32 × (Nat → Nat → Int32) := ((m_X7_plain c (c 111 20)).1, (m_X7_plain c (c 111 20)).2)
set_option maxRecDepth 100000 in
set_option maxHeartbeats 4000000 in
theorem k_X7_stolen (l : Launch) (E : zE) (b : Nat) (c : Nat → Nat → Int32) (w : Nat → Int64) (en : Nat → Nat) (ea : Nat → Nat → Int32)  (hg : zG c) : zM l yX7_stolen (.code yX7_stolen cX7_stolen 1 (some .int) :: zAll) (zRm 1 0 0) E b [.ref (b + 111)] (zH E b c w en ea) (fun v9 (_ : Unit) => v9 = some (.int (m_X7_stolen c).1) ∧ zfr 111 112 111 111 c (m_X7_stolen c).2 ∧ zG (m_X7_stolen c).2) (fun _ => zH E b ((m_X7_stolen c).2) w en ea) 0 0 := by
  refine zM_of "ToneGraphModel" (by decide) rfl rfl (Nat.le_of_ble_eq_true rfl) (L0 := [(0, .ref (b + 111))]) rfl ?_
  intro p e s m args below meth c9 B hr hname
  refine zv_aload_n (pc := 0) B 0 rfl dX7_stolen_0 ?_
  refine zv_aload_n (pc := 1) B 0 rfl dX7_stolen_1 ?_
  refine zv_get (pc := 2) (v := .int (c 111 20)) B (zat (by decide) (z111 _ _ _)) cl7 inX7 20 (by decide) wf_X7_72 rfl dX7_stolen_2 ?_
  refine zv_callV (pc := 5) (As := [.int (c 111 20)]) (rest := []) B (k_X7_plain l E b _ _ _ _  (c 111 20) hg) (zcwV 1 0 B wm_X7_125 wi_X7_plain wv_X7_plain wn_X7 wcode_X7_plain rfl (by decide +kernel) ⟨(Nat.le_of_ble_eq_true rfl), (Nat.le_of_ble_eq_true rfl)⟩) rfl (zrecv B (zat (by decide) (z111 _ _ _)) cl7) zid rfl (Nat.le_of_ble_eq_true rfl) dX7_stolen_5 ⟨(Nat.le_of_ble_eq_true rfl), (Nat.le_of_ble_eq_true rfl)⟩ (fun v9 u9 hv9 => ?_)
  obtain ⟨rfl, hF2001, hg2001⟩ := hv9
  refine zv_st (st' := [.int ((m_X7_plain c (c 111 20)).1)]) rfl ?_
  have hE2 : ((m_X7_plain c (c 111 20)).1, (m_X7_plain c (c 111 20)).2) = m_X7_stolen c := (by unfold m_X7_stolen; rfl)
  exact zv_iret (pc := 8) B ((m_X7_plain c (c 111 20)).1) hr (fun H hP => ⟨(), ⟨(by rw [(zp2 hE2).1]), (by rw [(zp2 hE2).2]; exact (zfr.call zfr.refl hF2001 (by omega))), (by rw [(zp2 hE2).2]; exact hg2001)⟩, (by rw [(zp2 hE2).2]; exact hP)⟩) (Nat.le_of_ble_eq_true rfl) (Nat.le_of_ble_eq_true rfl) dX7_stolen_8

def m_X7_time (c : Nat → Nat → Int32) : Int32 × (Nat → Nat → Int32) := ((m_X7_plain c (c 111 22)).1, (m_X7_plain c (c 111 22)).2)
set_option maxRecDepth 100000 in
set_option maxHeartbeats 4000000 in
theorem k_X7_time (l : Launch) (E : zE) (b : Nat) (c : Nat → Nat → Int32) (w : Nat → Int64) (en : Nat → Nat) (ea : Nat → Nat → Int32)  (hg : zG c) : zM l yX7_time (.code yX7_time cX7_time 1 (some .int) :: zAll) (zRm 1 0 0) E b [.ref (b + 111)] (zH E b c w en ea) (fun v9 (_ : Unit) => v9 = some (.int (m_X7_time c).1) ∧ zfr 111 112 111 111 c (m_X7_time c).2 ∧ zG (m_X7_time c).2) (fun _ => zH E b ((m_X7_time c).2) w en ea) 0 0 := by
  refine zM_of "ToneGraphModel" (by decide) rfl rfl (Nat.le_of_ble_eq_true rfl) (L0 := [(0, .ref (b + 111))]) rfl ?_
  intro p e s m args below meth c9 B hr hname
  refine zv_aload_n (pc := 0) B 0 rfl dX7_time_0 ?_
  refine zv_aload_n (pc := 1) B 0 rfl dX7_time_1 ?_
  refine zv_get (pc := 2) (v := .int (c 111 22)) B (zat (by decide) (z111 _ _ _)) cl7 inX7 22 (by decide) wf_X7_78 rfl dX7_time_2 ?_
  refine zv_callV (pc := 5) (As := [.int (c 111 22)]) (rest := []) B (k_X7_plain l E b _ _ _ _  (c 111 22) hg) (zcwV 1 0 B wm_X7_125 wi_X7_plain wv_X7_plain wn_X7 wcode_X7_plain rfl (by decide +kernel) ⟨(Nat.le_of_ble_eq_true rfl), (Nat.le_of_ble_eq_true rfl)⟩) rfl (zrecv B (zat (by decide) (z111 _ _ _)) cl7) zid rfl (Nat.le_of_ble_eq_true rfl) dX7_time_5 ⟨(Nat.le_of_ble_eq_true rfl), (Nat.le_of_ble_eq_true rfl)⟩ (fun v9 u9 hv9 => ?_)
  obtain ⟨rfl, hF2001, hg2001⟩ := hv9
  refine zv_st (st' := [.int ((m_X7_plain c (c 111 22)).1)]) rfl ?_
  have hE2 : ((m_X7_plain c (c 111 22)).1, (m_X7_plain c (c 111 22)).2) = m_X7_time c := (by unfold m_X7_time; rfl)
  exact zv_iret (pc := 8) B ((m_X7_plain c (c 111 22)).1) hr (fun H hP => ⟨(), ⟨(by rw [(zp2 hE2).1]), (by rw [(zp2 hE2).2]; exact (zfr.call zfr.refl hF2001 (by omega))), (by rw [(zp2 hE2).2]; exact hg2001)⟩, (by rw [(zp2 hE2).2]; exact hP)⟩) (Nat.le_of_ble_eq_true rfl) (Nat.le_of_ble_eq_true rfl) dX7_time_8

def m_X7_greatest (c : Nat → Nat → Int32) : Int32 × (Nat → Nat → Int32) := ((m_X7_plain c (c 111 23)).1, (m_X7_plain c (c 111 23)).2)
set_option maxRecDepth 100000 in
set_option maxHeartbeats 4000000 in
theorem k_X7_greatest (l : Launch) (E : zE) (b : Nat) (c : Nat → Nat → Int32) (w : Nat → Int64) (en : Nat → Nat) (ea : Nat → Nat → Int32)  (hg : zG c) : zM l yX7_greatest (.code yX7_greatest cX7_greatest 1 (some .int) :: zAll) (zRm 1 0 0) E b [.ref (b + 111)] (zH E b c w en ea) (fun v9 (_ : Unit) => v9 = some (.int (m_X7_greatest c).1) ∧ zfr 111 112 111 111 c (m_X7_greatest c).2 ∧ zG (m_X7_greatest c).2) (fun _ => zH E b ((m_X7_greatest c).2) w en ea) 0 0 := by
  refine zM_of "ToneGraphModel" (by decide) rfl rfl (Nat.le_of_ble_eq_true rfl) (L0 := [(0, .ref (b + 111))]) rfl ?_
  intro p e s m args below meth c9 B hr hname
  refine zv_aload_n (pc := 0) B 0 rfl dX7_greatest_0 ?_
  refine zv_aload_n (pc := 1) B 0 rfl dX7_greatest_1 ?_
  refine zv_get (pc := 2) (v := .int (c 111 23)) B (zat (by decide) (z111 _ _ _)) cl7 inX7 23 (by decide) wf_X7_81 rfl dX7_greatest_2 ?_
  refine zv_callV (pc := 5) (As := [.int (c 111 23)]) (rest := []) B (k_X7_plain l E b _ _ _ _  (c 111 23) hg) (zcwV 1 0 B wm_X7_125 wi_X7_plain wv_X7_plain wn_X7 wcode_X7_plain rfl (by decide +kernel) ⟨(Nat.le_of_ble_eq_true rfl), (Nat.le_of_ble_eq_true rfl)⟩) rfl (zrecv B (zat (by decide) (z111 _ _ _)) cl7) zid rfl (Nat.le_of_ble_eq_true rfl) dX7_greatest_5 ⟨(Nat.le_of_ble_eq_true rfl), (Nat.le_of_ble_eq_true rfl)⟩ (fun v9 u9 hv9 => ?_)
  obtain ⟨rfl, hF2001, hg2001⟩ := hv9
  refine zv_st (st' := [.int ((m_X7_plain c (c 111 23)).1)]) rfl ?_
  have hE2 : ((m_X7_plain c (c 111 23)).1, (m_X7_plain c (c 111 23)).2) = m_X7_greatest c := (by unfold m_X7_greatest; rfl)
  exact zv_iret (pc := 8) B ((m_X7_plain c (c 111 23)).1) hr (fun H hP => ⟨(), ⟨(by rw [(zp2 hE2).1]), (by rw [(zp2 hE2).2]; exact (zfr.call zfr.refl hF2001 (by omega))), (by rw [(zp2 hE2).2]; exact hg2001)⟩, (by rw [(zp2 hE2).2]; exact hP)⟩) (Nat.le_of_ble_eq_true rfl) (Nat.le_of_ble_eq_true rfl) dX7_greatest_8

def m_X7_energy (c : Nat → Nat → Int32) (w : Nat → Int64) : Int64 × (Nat → Nat → Int32) := (w 111, zup c 111 12 0)
set_option maxRecDepth 100000 in
set_option maxHeartbeats 4000000 in
theorem k_X7_energy (l : Launch) (E : zE) (b : Nat) (c : Nat → Nat → Int32) (w : Nat → Int64) (en : Nat → Nat) (ea : Nat → Nat → Int32)  (hg : zG c) : zM l yX7_energy (.code yX7_energy cX7_energy 1 (some .long) :: zAll) (zRm 0 0 0) E b [.ref (b + 111)] (zH E b c w en ea) (fun v9 (_ : Unit) => v9 = some (.long (m_X7_energy c w).1) ∧ zfr 111 112 111 111 c (m_X7_energy c w).2 ∧ zG (m_X7_energy c w).2) (fun _ => zH E b ((m_X7_energy c w).2) w en ea) 0 0 := by
  refine zM_of "ToneGraphModel" (by decide) rfl rfl (Nat.le_of_ble_eq_true rfl) (L0 := [(0, .ref (b + 111))]) rfl ?_
  intro p e s m args below meth c9 B hr hname
  refine zv_aload_n (pc := 0) B 0 rfl dX7_energy_0 ?_
  refine zv_iconst (pc := 1) (v := 0) B rfl dX7_energy_1 ?_
  refine zs_put9 (pc := 2) (f := 12) (F := fun x9 => [.ref (b + 112), .ref (b + 113), .ref (b + 114), .ref (b + 115), .ref (b + 116), .ref (b + 117), .ref (b + 118), .ref (b + 119), .ref (b + 120), .ref (b + 121), .ref (b + 122), .ref (b + 123), .int (x9 12), .int (x9 13), .int (x9 14), .int (x9 15), .int (x9 16), .int (x9 17), .int (x9 18), .int (x9 19), .int (x9 20), .int (x9 21), .int (x9 22), .int (x9 23), .int (x9 24), .long (w 111)]) B zid (by decide) rfl (fun x => z111 x _ _) cl7 inX7 tyX7 tyX7_ok nmX7 (by decide) wf_X7_47 rfl rfl rfl rfl (Nat.le_of_ble_eq_true rfl) (fun _ _ => rfl) dX7_energy_2 ?_
  refine zv_aload_n (pc := 5) B 0 rfl dX7_energy_5 ?_
  refine zv_get (pc := 6) (v := .long (w 111)) B (zat (by decide) (z111 _ _ _)) cl7 inX7 25 (by decide) wf_X7_87 rfl dX7_energy_6 ?_
  have hE1 : (w 111, zup c 111 12 0) = m_X7_energy c w := (by unfold m_X7_energy; rfl)
  exact zv_lret (pc := 9) B (w 111) hr (fun H hP => ⟨(), ⟨(by rw [(zp2 hE1).1]), (by rw [(zp2 hE1).2]; exact (zfr.up zfr.refl (by omega))), (by rw [(zp2 hE1).2]; exact (zG.up hg (show zn _ ≤ zT9 from zn_T _)))⟩, (by rw [(zp2 hE1).2]; exact hP)⟩) (Nat.le_of_ble_eq_true rfl) (Nat.le_of_ble_eq_true rfl) dX7_energy_9
