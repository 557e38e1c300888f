def m_X4_nextOldest (c : Nat → Nat → Int32) (o : Nat) (nd : Nat) (x : Int32) : Int32 := if (c 4 nd) ≤ (x + 1) then 0 else (x + 1)
set_option maxRecDepth 100000 in
set_option maxHeartbeats 4000000 in
theorem k_X4_nextOldest (l : Launch) (E : zE) (b : Nat) (c : Nat → Nat → Int32) (w : Nat → Int64) (en : Nat → Nat) (ea : Nat → Nat → Int32) {o : Nat} (ho : zTk o) {nd : Nat} (hnd : nd < 10) (x : Int32) (hg : zG c) : zM l yX4_nextOldest (.code yX4_nextOldest cX4_nextOldest 3 (some .int) :: zAll) (zRm 0 0 0) E b [.ref (b + o), .int (nI nd), .int x] (zH E b c w en ea) (fun v9 (_ : Unit) => v9 = some (.int (m_X4_nextOldest c o nd x))) (fun _ => zH E b c w en ea) 0 0 := by
  refine zM_of "ToneGraph$Track" (by decide) rfl rfl (Nat.le_of_ble_eq_true rfl) (L0 := [(0, .ref (b + o)), (1, .int (nI nd)), (2, .int x)]) rfl ?_
  intro p e s m args below meth c9 B hr hname
  have ho9 : o = 34 ∨ o = 70 := ho
  refine zv_iload_n (pc := 0) B 2 rfl dX4_nextOldest_0 ?_
  refine zv_iconst (pc := 1) (v := 1) B rfl dX4_nextOldest_1 ?_
  refine zv_iadd (pc := 2) B dX4_nextOldest_2 ?_
  refine zv_aload_n (pc := 3) B 0 rfl dX4_nextOldest_3 ?_
  refine zv_get (pc := 4) (v := .ref (b + 1)) B (zat (zTk.lt ho (k := 0) (by decide)) (zt_trk ho _ _ _)) cl4 inX4 0 (by decide) wf_X4_36 rfl dX4_nextOldest_4 ?_
  refine zv_get (pc := 7) (v := .ref (b + 4)) B (zat (by decide) (z1 _ _ _)) cl0 inX0 4 (by decide) wf_X4_131 rfl dX4_nextOldest_7 ?_
  refine zv_iload_n (pc := 10) B 1 rfl dX4_nextOldest_10 ?_
  refine zv_iald (pc := 11) (jj := nd) B (zat (by decide) (z4 _ _ _)) rfl hnd (by decide) dX4_nextOldest_11 ?_
  refine zv_icmp_ge (pc := 12) (tgt := 21) B dX4_nextOldest_12 rfl (fun h1 => ?_) (fun h1 => ?_)
  · refine zv_iconst (pc := 21) (v := 0) B rfl dX4_nextOldest_21 ?_
    have hE2 : 0 = m_X4_nextOldest c o nd x := (by unfold m_X4_nextOldest; rw [if_pos h1])
    exact zv_iret (pc := 22) B (0) hr (fun H hP => ⟨(), (congrArg (fun z => some (Value.int z)) hE2), hP⟩) (Nat.le_of_ble_eq_true rfl) (Nat.le_of_ble_eq_true rfl) dX4_nextOldest_22
  · refine zv_iload_n (pc := 15) B 2 rfl dX4_nextOldest_15 ?_
    refine zv_iconst (pc := 16) (v := 1) B rfl dX4_nextOldest_16 ?_
    refine zv_iadd (pc := 17) B dX4_nextOldest_17 ?_
    refine zv_goto (pc := 18) (tgt := 22) B rfl dX4_nextOldest_18 ?_
    have hE3 : x + 1 = m_X4_nextOldest c o nd x := (by unfold m_X4_nextOldest; rw [if_neg h1])
    exact zv_iret (pc := 22) B (x + 1) hr (fun H hP => ⟨(), (congrArg (fun z => some (Value.int z)) hE3), hP⟩) (Nat.le_of_ble_eq_true rfl) (Nat.le_of_ble_eq_true rfl) dX4_nextOldest_22

theorem no_lt {c : Nat → Nat → Int32} (hg : zG c) (o nd : Nat) {x : Int32} (hx : zn x < 60) : zn (m_X4_nextOldest c o nd x) < 60 := by
  have hl : zn (c 4 nd) ≤ 60 := hg 4 nd
  have hx1 : zn (x + 1) = zn x + 1 := zn_add hx (by decide)
  unfold m_X4_nextOldest
  split
  · decide
  · rename_i h
    have h9 : ¬ zn (c 4 nd) ≤ zn (x + 1) := fun q => h ((z_le (zn_eq _) (zn_eq _) (by omega) (by omega)).mpr q)
    omega

def g1_X4_inputAt (c : Nat → Nat → Int32) (o : Nat) (nd i : Nat)  : Nat → Nat → Int32 → (Nat → Int32 → Int32) → Int32
  | 0, k, x, K => K k x
  | n + 1, k, x, K => g1_X4_inputAt c o nd i n (k + 1) (x + (r_X6_partOf (c (o + 12 + (zn (c (12 + nd) k))) i) (c (23 + nd) k))) K
def m_X4_inputAt (c : Nat → Nat → Int32) (o : Nat) (nd i : Nat) : Int32 := g1_X4_inputAt c o nd i (zn (c 10 nd)) 0 0 (fun k x => x)
set_option maxRecDepth 100000 in
set_option maxHeartbeats 4000000 in
theorem k_X4_inputAt (l : Launch) (E : zE) (b : Nat) (c : Nat → Nat → Int32) (w : Nat → Int64) (en : Nat → Nat) (ea : Nat → Nat → Int32) {o : Nat} (ho : zTk o) {nd : Nat} (hnd : nd < 10) {i : Nat} (hi64 : i < 64) (hg : zG c) : zM l yX4_inputAt (.code yX4_inputAt cX4_inputAt 6 (some .int) :: zAll) (zRm 1 0 0) E b [.ref (b + o), .int (nI nd), .int (nI i)] (zH E b c w en ea) (fun v9 (_ : Unit) => v9 = some (.int (m_X4_inputAt c o nd i))) (fun _ => zH E b c w en ea) 0 0 := by
  refine zM_of "ToneGraph$Track" (by decide) rfl rfl (Nat.le_of_ble_eq_true rfl) (L0 := [(0, .ref (b + o)), (1, .int (nI nd)), (2, .int (nI i))]) rfl ?_
  intro p e s m args below meth c9 B hr hname
  have ho9 : o = 34 ∨ o = 70 := ho
  have hN : zn (c 10 nd) ≤ 4 := hg 10 nd
  refine zv_iconst (pc := 0) (v := 0) B rfl dX4_inputAt_0 ?_
  refine zv_istore_n (pc := 1) (L' := [(3, .int 0), (0, .ref (b + o)), (1, .int (nI nd)), (2, .int (nI i))]) B (by decide) rfl dX4_inputAt_1 ?_
  refine zv_iconst (pc := 2) (v := 0) B rfl dX4_inputAt_2 ?_
  refine zv_istore (pc := 3) (L' := [(4, .int 0), (3, .int 0), (0, .ref (b + o)), (1, .int (nI nd)), (2, .int (nI i))]) B (by decide) rfl dX4_inputAt_3 ?_
  have loop1 : ∀ (K : Nat → Int32 → Int32) (n : Nat) (k : Nat) (x : Int32), k + n = zn (c 10 nd) → g1_X4_inputAt c o nd i n k x K = m_X4_inputAt c o nd i → (∀ (k : Nat) (x : Int32), k ≤ zn (c 10 nd) → K k x = m_X4_inputAt c o nd i → zV p l e (zRm 1 0 0) s m args below meth c9 (MQ below (zQ b (fun v9 (_ : Unit) => v9 = some (.int (m_X4_inputAt c o nd i))) (fun _ => zH E b c w en ea)) args s 0 0 (zA b)) 6 b (zH E b c w en ea) 66 [(0, .ref (b + o)), (1, .int (nI nd)), (2, .int (nI i)), (4, .int (nI k)), (3, .int x)] [] 0 0) → zV p l e (zRm 1 0 0) s m args below meth c9 (MQ below (zQ b (fun v9 (_ : Unit) => v9 = some (.int (m_X4_inputAt c o nd i))) (fun _ => zH E b c w en ea)) args s 0 0 (zA b)) 6 b (zH E b c w en ea) 5 [(0, .ref (b + o)), (1, .int (nI nd)), (2, .int (nI i)), (4, .int (nI k)), (3, .int x)] [] 0 0 := by
    intro K n
    induction n with
    | zero =>
      intro k x hi hE901 hK
      refine zv_iload (pc := 5) B 3 rfl dX4_inputAt_5 ?_
      refine zv_aload_n (pc := 7) B 0 rfl dX4_inputAt_7 ?_
      refine zv_get (pc := 8) (v := .ref (b + 1)) B (zat (zTk.lt ho (k := 0) (by decide)) (zt_trk ho _ _ _)) cl4 inX4 0 (by decide) wf_X4_36 rfl dX4_inputAt_8 ?_
      refine zv_get (pc := 11) (v := .ref (b + 10)) B (zat (by decide) (z1 _ _ _)) cl0 inX0 10 (by decide) wf_X4_152 rfl dX4_inputAt_11 ?_
      refine zv_iload_n (pc := 14) B 1 rfl dX4_inputAt_14 ?_
      refine zv_iald (pc := 15) (jj := nd) B (zat (by decide) (z10 _ _ _)) rfl hnd (by decide) dX4_inputAt_15 ?_
      refine zv_icmp_ge (pc := 16) (tgt := 66) B dX4_inputAt_16 rfl (fun _ => ?_) (fun h9 => absurd ((z_le (a := (zn (c 10 nd))) (b := k) (zn_eq (c 10 nd)) rfl (by have h8 := (show zn _ ≤ 4 from hg 10 nd); omega) (by have h8 := (show zn _ ≤ 4 from hg 10 nd); omega)).mpr (by have h8 := (show zn _ ≤ 4 from hg 10 nd); omega)) h9)
      exact hK k x  (by omega) (Eq.trans (by rw [g1_X4_inputAt]) hE901)
    | succ n ih =>
      intro k x hi hE901 hK
      refine zv_iload (pc := 5) B 3 rfl dX4_inputAt_5 ?_
      refine zv_aload_n (pc := 7) B 0 rfl dX4_inputAt_7 ?_
      refine zv_get (pc := 8) (v := .ref (b + 1)) B (zat (zTk.lt ho (k := 0) (by decide)) (zt_trk ho _ _ _)) cl4 inX4 0 (by decide) wf_X4_36 rfl dX4_inputAt_8 ?_
      refine zv_get (pc := 11) (v := .ref (b + 10)) B (zat (by decide) (z1 _ _ _)) cl0 inX0 10 (by decide) wf_X4_152 rfl dX4_inputAt_11 ?_
      refine zv_iload_n (pc := 14) B 1 rfl dX4_inputAt_14 ?_
      refine zv_iald (pc := 15) (jj := nd) B (zat (by decide) (z10 _ _ _)) rfl hnd (by decide) dX4_inputAt_15 ?_
      refine zv_icmp_ge (pc := 16) (tgt := 66) B dX4_inputAt_16 rfl (fun h9 => absurd h9 (fun q9 => absurd ((z_le (a := (zn (c 10 nd))) (b := k) (zn_eq (c 10 nd)) rfl (by have h8 := (show zn _ ≤ 4 from hg 10 nd); omega) (by have h8 := (show zn _ ≤ 4 from hg 10 nd); omega)).mp q9) (by have h8 := (show zn _ ≤ 4 from hg 10 nd); omega))) (fun _ => ?_)
      refine zv_aload_n (pc := 19) B 0 rfl dX4_inputAt_19 ?_
      refine zv_get (pc := 20) (v := .ref (b + 1)) B (zat (zTk.lt ho (k := 0) (by decide)) (zt_trk ho _ _ _)) cl4 inX4 0 (by decide) wf_X4_36 rfl dX4_inputAt_20 ?_
      refine zv_get (pc := 23) (v := .ref (b + 11)) B (zat (by decide) (z1 _ _ _)) cl0 inX0 11 (by decide) wf_X4_155 rfl dX4_inputAt_23 ?_
      refine zv_iload_n (pc := 26) B 1 rfl dX4_inputAt_26 ?_
      refine zv_rald (pc := 27) (jj := nd) (q1 := b + (12 + nd)) B (zat (by decide) (z11 _ _ _)) rfl hnd (by decide) (if_pos hnd) dX4_inputAt_27 ?_
      refine zv_iload (pc := 28) B 3 rfl dX4_inputAt_28 ?_
      refine zv_iald (pc := 30) (jj := k) B (zat (by have h9 : nd < 10 := hnd; omega) (zsrc hnd _ _ _)) rfl (by omega) (by decide) dX4_inputAt_30 ?_
      refine zv_istore (pc := 31) (L' := [(5, .int (c (12 + nd) k)), (0, .ref (b + o)), (1, .int (nI nd)), (2, .int (nI i)), (4, .int (nI k)), (3, .int x)]) B (by decide) rfl dX4_inputAt_31 ?_
      refine zv_iload_n (pc := 33) B 5 rfl dX4_inputAt_33 ?_
      refine zv_aload_n (pc := 34) B 1 rfl dX4_inputAt_34 ?_
      refine zv_get (pc := 35) (v := .ref (b + (o + 11))) B (zat (zTk.lt ho (k := 0) (by decide)) (zt_trk ho _ _ _)) cl4 inX4 2 (by decide) wf_X4_20 rfl dX4_inputAt_35 ?_
      refine zv_iload (pc := 38) B 0 rfl dX4_inputAt_38 ?_
      refine zv_rald (pc := 40) (jj := (zn (c (12 + nd) k))) (q1 := b + (o + 12 + (zn (c (12 + nd) k)))) B (zat (ho.lt (by decide)) (zt_blk ho _ _ _)) (zn_eq (c (12 + nd) k)) (by have h8 := (zG.src hg hnd k); omega) (by decide) (if_pos (by have h8 := (zG.src hg hnd k); omega)) dX4_inputAt_40 ?_
      refine zv_iload_n (pc := 41) B 3 rfl dX4_inputAt_41 ?_
      refine zv_iald (pc := 42) (jj := i) B (zat (by have h9 : zn (c (12 + nd) k) < 10 := (by have h8 := (zG.src hg hnd k); omega); have := zTk.lt ho (k := 12 + (zn (c (12 + nd) k))) (by omega); omega) (zt_br ho (by have h8 := (zG.src hg hnd k); omega) _ _ _)) rfl hi64 (by decide) dX4_inputAt_42 ?_
      refine zv_aload_n (pc := 43) B 1 rfl dX4_inputAt_43 ?_
      refine zv_get (pc := 44) (v := .ref (b + 1)) B (zat (zTk.lt ho (k := 0) (by decide)) (zt_trk ho _ _ _)) cl4 inX4 0 (by decide) wf_X4_36 rfl dX4_inputAt_44 ?_
      refine zv_get (pc := 47) (v := .ref (b + 22)) B (zat (by decide) (z1 _ _ _)) cl0 inX0 12 (by decide) wf_X4_158 rfl dX4_inputAt_47 ?_
      refine zv_iload_n (pc := 50) B 2 rfl dX4_inputAt_50 ?_
      refine zv_rald (pc := 51) (jj := nd) (q1 := b + (23 + nd)) B (zat (by decide) (z22 _ _ _)) rfl hnd (by decide) (if_pos hnd) dX4_inputAt_51 ?_
      refine zv_iload (pc := 52) B 4 rfl dX4_inputAt_52 ?_
      refine zv_iald (pc := 54) (jj := k) B (zat (by have h9 : nd < 10 := hnd; omega) (zshr hnd _ _ _)) rfl (by omega) (by decide) dX4_inputAt_54 ?_
      refine zv_callSN (pc := 55) (As := [.int (c (o + 12 + (zn (c (12 + nd) k))) i), .int (c (23 + nd) k)]) (rest := [.int x]) B (k_X6_partOf l E b (c (o + 12 + (zn (c (12 + nd) k))) i) (c (23 + nd) k)) ⟨zcnB 2 0 3 B rfl wn_X6 wcode_X6_partOf (by decide +kernel) ⟨(Nat.le_of_ble_eq_true rfl), (Nat.le_of_ble_eq_true rfl)⟩, B.at ws_X6_partOf⟩ rfl zid rfl (Nat.le_of_ble_eq_true rfl) dX4_inputAt_55 ⟨(Nat.le_of_ble_eq_true rfl), (Nat.le_of_ble_eq_true rfl)⟩ (fun v9 u9 hv9 => ?_)
      subst hv9
      refine zv_st (st' := [.int (r_X6_partOf (c (o + 12 + (zn (c (12 + nd) k))) i) (c (23 + nd) k)), .int x]) rfl ?_
      refine zv_iadd (pc := 58) B dX4_inputAt_58 ?_
      refine zv_istore_n (pc := 59) (L' := [(3, .int (x + (r_X6_partOf (c (o + 12 + (zn (c (12 + nd) k))) i) (c (23 + nd) k)))), (5, .int (c (12 + nd) k)), (0, .ref (b + o)), (1, .int (nI nd)), (2, .int (nI i)), (4, .int (nI k))]) B (by decide) rfl dX4_inputAt_59 ?_
      refine zv_iinc (pc := 60) (v := nI (k + 1)) (L' := [(4, .int (nI (k + 1))), (3, .int (x + (r_X6_partOf (c (o + 12 + (zn (c (12 + nd) k))) i) (c (23 + nd) k)))), (5, .int (c (12 + nd) k)), (0, .ref (b + o)), (1, .int (nI nd)), (2, .int (nI i))]) B 5 rfl (nI_1 _) (by decide) rfl dX4_inputAt_60 ?_
      refine zv_goto (pc := 63) (tgt := 5) B rfl dX4_inputAt_63 ?_
      refine zv_loc (L' := [(0, .ref (b + o)), (1, .int (nI nd)), (2, .int (nI i)), (4, .int (nI (k + 1))), (3, .int (x + (r_X6_partOf (c (o + 12 + (zn (c (12 + nd) k))) i) (c (23 + nd) k))))]) [3, 4, 5, 0, 1] rfl ?_
      exact ih (k + 1) (x + (r_X6_partOf (c (o + 12 + (zn (c (12 + nd) k))) i) (c (23 + nd) k)))  (by omega) (Eq.trans (by rw [g1_X4_inputAt]) hE901) hK
  refine zv_loc (L' := [(0, .ref (b + o)), (1, .int (nI nd)), (2, .int (nI i)), (4, .int 0), (3, .int 0)]) [2, 3, 4, 0, 1] rfl ?_
  refine loop1 (fun k x => x) (zn (c 10 nd)) 0 0  (by omega) (by unfold m_X4_inputAt; rfl) ?_
  intro k x hx
  intro (hE951 : x = m_X4_inputAt c o nd i)
  refine zv_iload_n (pc := 66) B 4 rfl dX4_inputAt_66 ?_
  have hE3 : x = m_X4_inputAt c o nd i := hE951
  exact zv_iret (pc := 67) B (x) hr (fun H hP => ⟨(), (congrArg (fun z => some (Value.int z)) hE3), hP⟩) (Nat.le_of_ble_eq_true rfl) (Nat.le_of_ble_eq_true rfl) dX4_inputAt_67

def g1_X4_findGain (c : Nat → Nat → Int32) (o : Nat) (nd z : Nat)  : Nat → Nat → (Nat → Nat → Int32) → (Nat → (Nat → Nat → Int32) → (Nat → Nat → Int32)) → (Nat → Nat → Int32)
  | 0, i, c1, K => K i c1
  | n + 1, i, c1, K => g1_X4_findGain c o nd z n (i + 1) (zup c1 (o + 12 + nd) i (r_X6_cut (r_X6_partOf (m_X4_inputAt c1 o nd i) (c 3 nd)))) K
def m_X4_findGain (c : Nat → Nat → Int32) (o : Nat) (nd z : Nat) : (Nat → Nat → Int32) := g1_X4_findGain c o nd z z 0 c (fun i c1 => c1)
set_option maxRecDepth 100000 in
set_option maxHeartbeats 4000000 in
theorem k_X4_findGain (l : Launch) (E : zE) (b : Nat) (c : Nat → Nat → Int32) (w : Nat → Int64) (en : Nat → Nat) (ea : Nat → Nat → Int32) {o : Nat} (ho : zTk o) {nd : Nat} (hnd : nd < 10) {z : Nat} (hz : z ≤ 64) (hg : zG c) : zM l yX4_findGain (.code yX4_findGain cX4_findGain 4 none :: zAll) (zRm 2 0 0) E b [.ref (b + o), .int (nI nd), .int (nI z)] (zH E b c w en ea) (fun v9 (_ : Unit) => v9 = none ∧ zfr (o + 12) (o + 22) (o + 12) (o + 12) c (m_X4_findGain c o nd z) ∧ zG (m_X4_findGain c o nd z)) (fun _ => zH E b (m_X4_findGain c o nd z) w en ea) 0 0 := by
  refine zM_of "ToneGraph$Track" (by decide) rfl rfl (Nat.le_of_ble_eq_true rfl) (L0 := [(0, .ref (b + o)), (1, .int (nI nd)), (2, .int (nI z))]) rfl ?_
  intro p e s m args below meth c9 B hr hname
  have ho9 : o = 34 ∨ o = 70 := ho
  have hzz := hz
  have hnn := hnd
  refine zv_iconst (pc := 0) (v := 0) B rfl dX4_findGain_0 ?_
  refine zv_istore_n (pc := 1) (L' := [(3, .int 0), (0, .ref (b + o)), (1, .int (nI nd)), (2, .int (nI z))]) B (by decide) rfl dX4_findGain_1 ?_
  have loop1 : ∀ (K : Nat → (Nat → Nat → Int32) → (Nat → Nat → Int32)) (n : Nat) (i : Nat) (c1 : Nat → Nat → Int32), zfr (o + 12) (o + 22) (o + 12) (o + 12) c c1 → zG c1 → i + n = z → g1_X4_findGain c o nd z n i c1 K = m_X4_findGain c o nd z → (∀ (i : Nat) (c1 : Nat → Nat → Int32), zfr (o + 12) (o + 22) (o + 12) (o + 12) c c1 → zG c1 → i ≤ z → K i c1 = m_X4_findGain c o nd z → zV p l e (zRm 2 0 0) s m args below meth c9 (MQ below (zQ b (fun v9 (_ : Unit) => v9 = none ∧ zfr (o + 12) (o + 22) (o + 12) (o + 12) c (m_X4_findGain c o nd z) ∧ zG (m_X4_findGain c o nd z)) (fun _ => zH E b (m_X4_findGain c o nd z) w en ea)) args s 0 0 (zA b)) 4 b (zH E b c1 w en ea) 42 [(0, .ref (b + o)), (1, .int (nI nd)), (2, .int (nI z)), (3, .int (nI i))] [] 0 0) → zV p l e (zRm 2 0 0) s m args below meth c9 (MQ below (zQ b (fun v9 (_ : Unit) => v9 = none ∧ zfr (o + 12) (o + 22) (o + 12) (o + 12) c (m_X4_findGain c o nd z) ∧ zG (m_X4_findGain c o nd z)) (fun _ => zH E b (m_X4_findGain c o nd z) w en ea)) args s 0 0 (zA b)) 4 b (zH E b c1 w en ea) 2 [(0, .ref (b + o)), (1, .int (nI nd)), (2, .int (nI z)), (3, .int (nI i))] [] 0 0 := by
    intro K n
    induction n with
    | zero =>
      intro i c1 hF1 hg1 hi hE901 hK
      refine zv_iload_n (pc := 2) B 3 rfl dX4_findGain_2 ?_
      refine zv_iload_n (pc := 3) B 2 rfl dX4_findGain_3 ?_
      refine zv_icmp_ge (pc := 4) (tgt := 42) B dX4_findGain_4 rfl (fun _ => ?_) (fun h9 => absurd ((z_le (a := z) (b := i) rfl rfl (by omega) (by omega)).mpr (by omega)) h9)
      exact hK i c1 hF1 hg1 (by omega) (Eq.trans (by rw [g1_X4_findGain]) hE901)
    | succ n ih =>
      intro i c1 hF1 hg1 hi hE901 hK
      refine zv_iload_n (pc := 2) B 3 rfl dX4_findGain_2 ?_
      refine zv_iload_n (pc := 3) B 2 rfl dX4_findGain_3 ?_
      refine zv_icmp_ge (pc := 4) (tgt := 42) B dX4_findGain_4 rfl (fun h9 => absurd h9 (fun q9 => absurd ((z_le (a := z) (b := i) rfl rfl (by omega) (by omega)).mp q9) (by omega))) (fun _ => ?_)
      refine zv_aload_n (pc := 7) B 0 rfl dX4_findGain_7 ?_
      refine zv_get (pc := 8) (v := .ref (b + (o + 11))) B (zat (zTk.lt ho (k := 0) (by decide)) (zt_trk ho _ _ _)) cl4 inX4 2 (by decide) wf_X4_20 rfl dX4_findGain_8 ?_
      refine zv_iload_n (pc := 11) B 1 rfl dX4_findGain_11 ?_
      refine zv_rald (pc := 12) (jj := nd) (q1 := b + (o + 12 + nd)) B (zat (ho.lt (by decide)) (zt_blk ho _ _ _)) rfl hnd (by decide) (if_pos hnd) dX4_findGain_12 ?_
      refine zv_iload_n (pc := 13) B 3 rfl dX4_findGain_13 ?_
      refine zv_aload_n (pc := 14) B 0 rfl dX4_findGain_14 ?_
      refine zv_iload_n (pc := 15) B 1 rfl dX4_findGain_15 ?_
      refine zv_iload_n (pc := 16) B 3 rfl dX4_findGain_16 ?_
      refine zv_callV (pc := 17) (As := [.int (nI nd), .int (nI i)]) (rest := [.int (nI i), .ref (b + (o + 12 + nd))]) B (k_X4_inputAt l E b _ _ _ _ ho hnd (by omega) hg1) (zcwV 2 1 B wm_X4_116 wi_X4_inputAt wv_X4_inputAt wn_X4 wcode_X4_inputAt rfl (by decide +kernel) ⟨(Nat.le_of_ble_eq_true rfl), (Nat.le_of_ble_eq_true rfl)⟩) rfl (zrecv B (zat (zTk.lt ho (k := 0) (by decide)) (zt_trk ho _ _ _)) cl4) zid rfl (Nat.le_of_ble_eq_true rfl) dX4_findGain_17 ⟨(Nat.le_of_ble_eq_true rfl), (Nat.le_of_ble_eq_true rfl)⟩ (fun v9 u9 hv9 => ?_)
      subst hv9
      refine zv_st (st' := [.int (m_X4_inputAt c1 o nd i), .int (nI i), .ref (b + (o + 12 + nd))]) rfl ?_
      refine zv_aload_n (pc := 20) B 0 rfl dX4_findGain_20 ?_
      refine zv_get (pc := 21) (v := .ref (b + 1)) B (zat (zTk.lt ho (k := 0) (by decide)) (zt_trk ho _ _ _)) cl4 inX4 0 (by decide) wf_X4_36 rfl dX4_findGain_21 ?_
      refine zv_get (pc := 24) (v := .ref (b + 3)) B (zat (by decide) (z1 _ _ _)) cl0 inX0 3 (by decide) wf_X4_119 rfl dX4_findGain_24 ?_
      refine zv_iload_n (pc := 27) B 1 rfl dX4_findGain_27 ?_
      refine zv_iald (pc := 28) (jj := nd) B (zat (by decide) (z3 _ _ _)) rfl hnd (by decide) dX4_findGain_28 ?_
      refine zv_topi (y := c 3 nd) (by rw [hF1 3 (by omega)]) ?_
      refine zv_callSN (pc := 29) (As := [.int (m_X4_inputAt c1 o nd i), .int (c 3 nd)]) (rest := [.int (nI i), .ref (b + (o + 12 + nd))]) B (k_X6_partOf l E b (m_X4_inputAt c1 o nd i) (c 3 nd)) ⟨zcnB 2 0 3 B rfl wn_X6 wcode_X6_partOf (by decide +kernel) ⟨(Nat.le_of_ble_eq_true rfl), (Nat.le_of_ble_eq_true rfl)⟩, B.at ws_X6_partOf⟩ rfl zid rfl (Nat.le_of_ble_eq_true rfl) dX4_findGain_29 ⟨(Nat.le_of_ble_eq_true rfl), (Nat.le_of_ble_eq_true rfl)⟩ (fun v9 u9 hv9 => ?_)
      subst hv9
      refine zv_st (st' := [.int (r_X6_partOf (m_X4_inputAt c1 o nd i) (c 3 nd)), .int (nI i), .ref (b + (o + 12 + nd))]) rfl ?_
      refine zv_callSN (pc := 32) (As := [.int (r_X6_partOf (m_X4_inputAt c1 o nd i) (c 3 nd))]) (rest := [.int (nI i), .ref (b + (o + 12 + nd))]) B (k_X6_cut l E b (r_X6_partOf (m_X4_inputAt c1 o nd i) (c 3 nd))) ⟨zcnB 1 1 2 B rfl wn_X6 wcode_X6_cut (by decide +kernel) ⟨(Nat.le_of_ble_eq_true rfl), (Nat.le_of_ble_eq_true rfl)⟩, B.at ws_X6_cut⟩ rfl zid rfl (Nat.le_of_ble_eq_true rfl) dX4_findGain_32 ⟨(Nat.le_of_ble_eq_true rfl), (Nat.le_of_ble_eq_true rfl)⟩ (fun v9 u9 hv9 => ?_)
      subst hv9
      refine zv_st (st' := [.int (r_X6_cut (r_X6_partOf (m_X4_inputAt c1 o nd i) (c 3 nd))), .int (nI i), .ref (b + (o + 12 + nd))]) rfl ?_
      refine zs_iast (pc := 35) (jj := i) B zid (by have h9 : nd < 10 := hnd; have := zTk.lt ho (k := 12 + nd) (by omega); omega) (zt_br_e ho hnd) (fun x w e => zt_br ho hnd x w e) rfl (by omega) (by decide) dX4_findGain_35 ?_
      refine zv_iinc (pc := 36) (v := nI (i + 1)) (L' := [(3, .int (nI (i + 1))), (0, .ref (b + o)), (1, .int (nI nd)), (2, .int (nI z))]) B 3 rfl (nI_1 _) (by decide) rfl dX4_findGain_36 ?_
      refine zv_goto (pc := 39) (tgt := 2) B rfl dX4_findGain_39 ?_
      refine zv_loc (L' := [(0, .ref (b + o)), (1, .int (nI nd)), (2, .int (nI z)), (3, .int (nI (i + 1)))]) [1, 2, 3, 0] rfl ?_
      exact ih (i + 1) (zup c1 (o + 12 + nd) i (r_X6_cut (r_X6_partOf (m_X4_inputAt c1 o nd i) (c 3 nd)))) (zfr.up hF1 (by have h8 : nd < 10 := hnd; omega)) (zG.free hg1 (by have h8 : nd < 10 := hnd; unfold zfree; omega)) (by omega) (Eq.trans (by rw [g1_X4_findGain]) hE901) hK
  refine zv_loc (L' := [(0, .ref (b + o)), (1, .int (nI nd)), (2, .int (nI z)), (3, .int 0)]) [1, 2, 3, 0] rfl ?_
  refine loop1 (fun i c1 => c1) z 0 c zfr.refl hg (by omega) (by unfold m_X4_findGain; rfl) ?_
  intro i c1 hF1 hg1 hx
  intro (hE951 : c1 = m_X4_findGain c o nd z)
  have hE3 : c1 = m_X4_findGain c o nd z := hE951
  exact zv_vret (pc := 42) B hr (fun H hP => ⟨(), ⟨rfl, Eq.subst (motive := fun z => zfr (o + 12) (o + 22) (o + 12) (o + 12) c z) hE3 hF1, Eq.subst (motive := fun z => zG z) hE3 hg1⟩, Eq.subst (motive := fun z => zH E b z w en ea H) hE3 hP⟩) (Nat.le_of_ble_eq_true rfl) (Nat.le_of_ble_eq_true rfl) dX4_findGain_42

def g1_X4_findBus (c : Nat → Nat → Int32) (o : Nat) (nd z : Nat)  : Nat → Nat → (Nat → Nat → Int32) → (Nat → (Nat → Nat → Int32) → (Nat → Nat → Int32)) → (Nat → Nat → Int32)
  | 0, i, c1, K => K i c1
  | n + 1, i, c1, K => g1_X4_findBus c o nd z n (i + 1) (zup c1 (o + 12 + nd) i (r_X6_cut (r_X4_limited (m_X4_inputAt c1 o nd i) (c 9 nd)))) K
def m_X4_findBus (c : Nat → Nat → Int32) (o : Nat) (nd z : Nat) : (Nat → Nat → Int32) := g1_X4_findBus c o nd z z 0 c (fun i c1 => c1)
set_option maxRecDepth 100000 in
set_option maxHeartbeats 4000000 in
theorem k_X4_findBus (l : Launch) (E : zE) (b : Nat) (c : Nat → Nat → Int32) (w : Nat → Int64) (en : Nat → Nat) (ea : Nat → Nat → Int32) {o : Nat} (ho : zTk o) {nd : Nat} (hnd : nd < 10) {z : Nat} (hz : z ≤ 64) (hg : zG c) : zM l yX4_findBus (.code yX4_findBus cX4_findBus 4 none :: zAll) (zRm 2 0 0) E b [.ref (b + o), .int (nI nd), .int (nI z)] (zH E b c w en ea) (fun v9 (_ : Unit) => v9 = none ∧ zfr (o + 12) (o + 22) (o + 12) (o + 12) c (m_X4_findBus c o nd z) ∧ zG (m_X4_findBus c o nd z)) (fun _ => zH E b (m_X4_findBus c o nd z) w en ea) 0 0 := by
  refine zM_of "ToneGraph$Track" (by decide) rfl rfl (Nat.le_of_ble_eq_true rfl) (L0 := [(0, .ref (b + o)), (1, .int (nI nd)), (2, .int (nI z))]) rfl ?_
  intro p e s m args below meth c9 B hr hname
  have ho9 : o = 34 ∨ o = 70 := ho
  have hzz := hz
  have hnn := hnd
  refine zv_iconst (pc := 0) (v := 0) B rfl dX4_findBus_0 ?_
  refine zv_istore_n (pc := 1) (L' := [(3, .int 0), (0, .ref (b + o)), (1, .int (nI nd)), (2, .int (nI z))]) B (by decide) rfl dX4_findBus_1 ?_
  have loop1 : ∀ (K : Nat → (Nat → Nat → Int32) → (Nat → Nat → Int32)) (n : Nat) (i : Nat) (c1 : Nat → Nat → Int32), zfr (o + 12) (o + 22) (o + 12) (o + 12) c c1 → zG c1 → i + n = z → g1_X4_findBus c o nd z n i c1 K = m_X4_findBus c o nd z → (∀ (i : Nat) (c1 : Nat → Nat → Int32), zfr (o + 12) (o + 22) (o + 12) (o + 12) c c1 → zG c1 → i ≤ z → K i c1 = m_X4_findBus c o nd z → zV p l e (zRm 2 0 0) s m args below meth c9 (MQ below (zQ b (fun v9 (_ : Unit) => v9 = none ∧ zfr (o + 12) (o + 22) (o + 12) (o + 12) c (m_X4_findBus c o nd z) ∧ zG (m_X4_findBus c o nd z)) (fun _ => zH E b (m_X4_findBus c o nd z) w en ea)) args s 0 0 (zA b)) 4 b (zH E b c1 w en ea) 42 [(0, .ref (b + o)), (1, .int (nI nd)), (2, .int (nI z)), (3, .int (nI i))] [] 0 0) → zV p l e (zRm 2 0 0) s m args below meth c9 (MQ below (zQ b (fun v9 (_ : Unit) => v9 = none ∧ zfr (o + 12) (o + 22) (o + 12) (o + 12) c (m_X4_findBus c o nd z) ∧ zG (m_X4_findBus c o nd z)) (fun _ => zH E b (m_X4_findBus c o nd z) w en ea)) args s 0 0 (zA b)) 4 b (zH E b c1 w en ea) 2 [(0, .ref (b + o)), (1, .int (nI nd)), (2, .int (nI z)), (3, .int (nI i))] [] 0 0 := by
    intro K n
    induction n with
    | zero =>
      intro i c1 hF1 hg1 hi hE901 hK
      refine zv_iload_n (pc := 2) B 3 rfl dX4_findBus_2 ?_
      refine zv_iload_n (pc := 3) B 2 rfl dX4_findBus_3 ?_
      refine zv_icmp_ge (pc := 4) (tgt := 42) B dX4_findBus_4 rfl (fun _ => ?_) (fun h9 => absurd ((z_le (a := z) (b := i) rfl rfl (by omega) (by omega)).mpr (by omega)) h9)
      exact hK i c1 hF1 hg1 (by omega) (Eq.trans (by rw [g1_X4_findBus]) hE901)
    | succ n ih =>
      intro i c1 hF1 hg1 hi hE901 hK
      refine zv_iload_n (pc := 2) B 3 rfl dX4_findBus_2 ?_
      refine zv_iload_n (pc := 3) B 2 rfl dX4_findBus_3 ?_
      refine zv_icmp_ge (pc := 4) (tgt := 42) B dX4_findBus_4 rfl (fun h9 => absurd h9 (fun q9 => absurd ((z_le (a := z) (b := i) rfl rfl (by omega) (by omega)).mp q9) (by omega))) (fun _ => ?_)
      refine zv_aload_n (pc := 7) B 0 rfl dX4_findBus_7 ?_
      refine zv_get (pc := 8) (v := .ref (b + (o + 11))) B (zat (zTk.lt ho (k := 0) (by decide)) (zt_trk ho _ _ _)) cl4 inX4 2 (by decide) wf_X4_20 rfl dX4_findBus_8 ?_
      refine zv_iload_n (pc := 11) B 1 rfl dX4_findBus_11 ?_
      refine zv_rald (pc := 12) (jj := nd) (q1 := b + (o + 12 + nd)) B (zat (ho.lt (by decide)) (zt_blk ho _ _ _)) rfl hnd (by decide) (if_pos hnd) dX4_findBus_12 ?_
      refine zv_iload_n (pc := 13) B 3 rfl dX4_findBus_13 ?_
      refine zv_aload_n (pc := 14) B 0 rfl dX4_findBus_14 ?_
      refine zv_iload_n (pc := 15) B 1 rfl dX4_findBus_15 ?_
      refine zv_iload_n (pc := 16) B 3 rfl dX4_findBus_16 ?_
      refine zv_callV (pc := 17) (As := [.int (nI nd), .int (nI i)]) (rest := [.int (nI i), .ref (b + (o + 12 + nd))]) B (k_X4_inputAt l E b _ _ _ _ ho hnd (by omega) hg1) (zcwV 2 1 B wm_X4_116 wi_X4_inputAt wv_X4_inputAt wn_X4 wcode_X4_inputAt rfl (by decide +kernel) ⟨(Nat.le_of_ble_eq_true rfl), (Nat.le_of_ble_eq_true rfl)⟩) rfl (zrecv B (zat (zTk.lt ho (k := 0) (by decide)) (zt_trk ho _ _ _)) cl4) zid rfl (Nat.le_of_ble_eq_true rfl) dX4_findBus_17 ⟨(Nat.le_of_ble_eq_true rfl), (Nat.le_of_ble_eq_true rfl)⟩ (fun v9 u9 hv9 => ?_)
      subst hv9
      refine zv_st (st' := [.int (m_X4_inputAt c1 o nd i), .int (nI i), .ref (b + (o + 12 + nd))]) rfl ?_
      refine zv_aload_n (pc := 20) B 0 rfl dX4_findBus_20 ?_
      refine zv_get (pc := 21) (v := .ref (b + 1)) B (zat (zTk.lt ho (k := 0) (by decide)) (zt_trk ho _ _ _)) cl4 inX4 0 (by decide) wf_X4_36 rfl dX4_findBus_21 ?_
      refine zv_get (pc := 24) (v := .ref (b + 9)) B (zat (by decide) (z1 _ _ _)) cl0 inX0 9 (by decide) wf_X4_143 rfl dX4_findBus_24 ?_
      refine zv_iload_n (pc := 27) B 1 rfl dX4_findBus_27 ?_
      refine zv_iald (pc := 28) (jj := nd) B (zat (by decide) (z9 _ _ _)) rfl hnd (by decide) dX4_findBus_28 ?_
      refine zv_topi (y := c 9 nd) (by rw [hF1 9 (by omega)]) ?_
      refine zv_callS (pc := 29) (As := [.int (m_X4_inputAt c1 o nd i), .int (c 9 nd)]) (rest := [.int (nI i), .ref (b + (o + 12 + nd))]) B (k_X4_limited l E b (m_X4_inputAt c1 o nd i) (c 9 nd)) (zcwS 2 1 B wm_X4_146 ws_X4_limited wn_X4 wcode_X4_limited (by decide +kernel) ⟨(Nat.le_of_ble_eq_true rfl), (Nat.le_of_ble_eq_true rfl)⟩) rfl zid rfl (Nat.le_of_ble_eq_true rfl) dX4_findBus_29 ⟨(Nat.le_of_ble_eq_true rfl), (Nat.le_of_ble_eq_true rfl)⟩ (fun v9 u9 hv9 => ?_)
      subst hv9
      refine zv_st (st' := [.int (r_X4_limited (m_X4_inputAt c1 o nd i) (c 9 nd)), .int (nI i), .ref (b + (o + 12 + nd))]) rfl ?_
      refine zv_callSN (pc := 32) (As := [.int (r_X4_limited (m_X4_inputAt c1 o nd i) (c 9 nd))]) (rest := [.int (nI i), .ref (b + (o + 12 + nd))]) B (k_X6_cut l E b (r_X4_limited (m_X4_inputAt c1 o nd i) (c 9 nd))) ⟨zcnB 1 1 2 B rfl wn_X6 wcode_X6_cut (by decide +kernel) ⟨(Nat.le_of_ble_eq_true rfl), (Nat.le_of_ble_eq_true rfl)⟩, B.at ws_X6_cut⟩ rfl zid rfl (Nat.le_of_ble_eq_true rfl) dX4_findBus_32 ⟨(Nat.le_of_ble_eq_true rfl), (Nat.le_of_ble_eq_true rfl)⟩ (fun v9 u9 hv9 => ?_)
      subst hv9
      refine zv_st (st' := [.int (r_X6_cut (r_X4_limited (m_X4_inputAt c1 o nd i) (c 9 nd))), .int (nI i), .ref (b + (o + 12 + nd))]) rfl ?_
      refine zs_iast (pc := 35) (jj := i) B zid (by have h9 : nd < 10 := hnd; have := zTk.lt ho (k := 12 + nd) (by omega); omega) (zt_br_e ho hnd) (fun x w e => zt_br ho hnd x w e) rfl (by omega) (by decide) dX4_findBus_35 ?_
      refine zv_iinc (pc := 36) (v := nI (i + 1)) (L' := [(3, .int (nI (i + 1))), (0, .ref (b + o)), (1, .int (nI nd)), (2, .int (nI z))]) B 3 rfl (nI_1 _) (by decide) rfl dX4_findBus_36 ?_
      refine zv_goto (pc := 39) (tgt := 2) B rfl dX4_findBus_39 ?_
      refine zv_loc (L' := [(0, .ref (b + o)), (1, .int (nI nd)), (2, .int (nI z)), (3, .int (nI (i + 1)))]) [1, 2, 3, 0] rfl ?_
      exact ih (i + 1) (zup c1 (o + 12 + nd) i (r_X6_cut (r_X4_limited (m_X4_inputAt c1 o nd i) (c 9 nd)))) (zfr.up hF1 (by have h8 : nd < 10 := hnd; omega)) (zG.free hg1 (by have h8 : nd < 10 := hnd; unfold zfree; omega)) (by omega) (Eq.trans (by rw [g1_X4_findBus]) hE901) hK
  refine zv_loc (L' := [(0, .ref (b + o)), (1, .int (nI nd)), (2, .int (nI z)), (3, .int 0)]) [1, 2, 3, 0] rfl ?_
  refine loop1 (fun i c1 => c1) z 0 c zfr.refl hg (by omega) (by unfold m_X4_findBus; rfl) ?_
  intro i c1 hF1 hg1 hx
  intro (hE951 : c1 = m_X4_findBus c o nd z)
  have hE3 : c1 = m_X4_findBus c o nd z := hE951
  exact zv_vret (pc := 42) B hr (fun H hP => ⟨(), ⟨rfl, Eq.subst (motive := fun z => zfr (o + 12) (o + 22) (o + 12) (o + 12) c z) hE3 hF1, Eq.subst (motive := fun z => zG z) hE3 hg1⟩, Eq.subst (motive := fun z => zH E b z w en ea H) hE3 hP⟩) (Nat.le_of_ble_eq_true rfl) (Nat.le_of_ble_eq_true rfl) dX4_findBus_42

def g1_X4_findDelay (c : Nat → Nat → Int32) (o : Nat) (nd z : Nat)  : Nat → Nat → Int32 → (Nat → Nat → Int32) → (Nat → Int32 → (Nat → Nat → Int32) → (Nat → Nat → Int32)) → (Nat → Nat → Int32)
  | 0, i, x, c1, K => K i x c1
  | n + 1, i, x, c1, K => g1_X4_findDelay c o nd z n (i + 1) (m_X4_nextOldest (zup c1 (o + 12 + nd) i (c (o + 25 + nd) (zn x))) o nd x) (zup c1 (o + 12 + nd) i (c (o + 25 + nd) (zn x))) K
def m_X4_findDelay (c : Nat → Nat → Int32) (o : Nat) (nd z : Nat) : (Nat → Nat → Int32) := g1_X4_findDelay c o nd z z 0 (c (o + 35) nd) c (fun i x c1 => c1)
set_option maxRecDepth 100000 in
set_option maxHeartbeats 4000000 in
theorem k_X4_findDelay (l : Launch) (E : zE) (b : Nat) (c : Nat → Nat → Int32) (w : Nat → Int64) (en : Nat → Nat) (ea : Nat → Nat → Int32) {o : Nat} (ho : zTk o) {nd : Nat} (hnd : nd < 10) {z : Nat} (hz : z ≤ 64) (hg : zG c) : zM l yX4_findDelay (.code yX4_findDelay cX4_findDelay 5 none :: zAll) (zRm 1 0 0) E b [.ref (b + o), .int (nI nd), .int (nI z)] (zH E b c w en ea) (fun v9 (_ : Unit) => v9 = none ∧ zfr (o + 12) (o + 22) (o + 12) (o + 12) c (m_X4_findDelay c o nd z) ∧ zG (m_X4_findDelay c o nd z)) (fun _ => zH E b (m_X4_findDelay c o nd z) w en ea) 0 0 := by
  refine zM_of "ToneGraph$Track" (by decide) rfl rfl (Nat.le_of_ble_eq_true rfl) (L0 := [(0, .ref (b + o)), (1, .int (nI nd)), (2, .int (nI z))]) rfl ?_
  intro p e s m args below meth c9 B hr hname
  have ho9 : o = 34 ∨ o = 70 := ho
  have hzz := hz
  have hnn := hnd
  refine zv_aload_n (pc := 0) B 0 rfl dX4_findDelay_0 ?_
  refine zv_get (pc := 1) (v := .ref (b + (o + 35))) B (zat (zTk.lt ho (k := 0) (by decide)) (zt_trk ho _ _ _)) cl4 inX4 6 (by decide) wf_X4_33 rfl dX4_findDelay_1 ?_
  refine zv_iload_n (pc := 4) B 1 rfl dX4_findDelay_4 ?_
  refine zv_iald (pc := 5) (jj := nd) B (zat (ho.lt (by decide)) (zt_old ho _ _ _)) rfl hnd (by decide) dX4_findDelay_5 ?_
  refine zv_istore_n (pc := 6) (L' := [(3, .int (c (o + 35) nd)), (0, .ref (b + o)), (1, .int (nI nd)), (2, .int (nI z))]) B (by decide) rfl dX4_findDelay_6 ?_
  refine zv_iconst (pc := 7) (v := 0) B rfl dX4_findDelay_7 ?_
  refine zv_istore (pc := 8) (L' := [(4, .int 0), (3, .int (c (o + 35) nd)), (0, .ref (b + o)), (1, .int (nI nd)), (2, .int (nI z))]) B (by decide) rfl dX4_findDelay_8 ?_
  have loop1 : ∀ (K : Nat → Int32 → (Nat → Nat → Int32) → (Nat → Nat → Int32)) (n : Nat) (i : Nat) (x : Int32) (c1 : Nat → Nat → Int32), zfr (o + 12) (o + 22) (o + 12) (o + 12) c c1 → zG c1 → zn x < 60 → i + n = z → g1_X4_findDelay c o nd z n i x c1 K = m_X4_findDelay c o nd z → (∀ (i : Nat) (x : Int32) (c1 : Nat → Nat → Int32), zfr (o + 12) (o + 22) (o + 12) (o + 12) c c1 → zG c1 → zn x < 60 → i ≤ z → K i x c1 = m_X4_findDelay c o nd z → zV p l e (zRm 1 0 0) s m args below meth c9 (MQ below (zQ b (fun v9 (_ : Unit) => v9 = none ∧ zfr (o + 12) (o + 22) (o + 12) (o + 12) c (m_X4_findDelay c o nd z) ∧ zG (m_X4_findDelay c o nd z)) (fun _ => zH E b (m_X4_findDelay c o nd z) w en ea)) args s 0 0 (zA b)) 5 b (zH E b c1 w en ea) 46 [(0, .ref (b + o)), (1, .int (nI nd)), (2, .int (nI z)), (4, .int (nI i)), (3, .int x)] [] 0 0) → zV p l e (zRm 1 0 0) s m args below meth c9 (MQ below (zQ b (fun v9 (_ : Unit) => v9 = none ∧ zfr (o + 12) (o + 22) (o + 12) (o + 12) c (m_X4_findDelay c o nd z) ∧ zG (m_X4_findDelay c o nd z)) (fun _ => zH E b (m_X4_findDelay c o nd z) w en ea)) args s 0 0 (zA b)) 5 b (zH E b c1 w en ea) 10 [(0, .ref (b + o)), (1, .int (nI nd)), (2, .int (nI z)), (4, .int (nI i)), (3, .int x)] [] 0 0 := by
    intro K n
    induction n with
    | zero =>
      intro i x c1 hF1 hg1 hx hi hE901 hK
      refine zv_iload (pc := 10) B 3 rfl dX4_findDelay_10 ?_
      refine zv_iload_n (pc := 12) B 2 rfl dX4_findDelay_12 ?_
      refine zv_icmp_ge (pc := 13) (tgt := 46) B dX4_findDelay_13 rfl (fun _ => ?_) (fun h9 => absurd ((z_le (a := z) (b := i) rfl rfl (by omega) (by omega)).mpr (by omega)) h9)
      exact hK i x c1 hF1 hg1 hx (by omega) (Eq.trans (by rw [g1_X4_findDelay]) hE901)
    | succ n ih =>
      intro i x c1 hF1 hg1 hx hi hE901 hK
      refine zv_iload (pc := 10) B 3 rfl dX4_findDelay_10 ?_
      refine zv_iload_n (pc := 12) B 2 rfl dX4_findDelay_12 ?_
      refine zv_icmp_ge (pc := 13) (tgt := 46) B dX4_findDelay_13 rfl (fun h9 => absurd h9 (fun q9 => absurd ((z_le (a := z) (b := i) rfl rfl (by omega) (by omega)).mp q9) (by omega))) (fun _ => ?_)
      refine zv_aload_n (pc := 16) B 0 rfl dX4_findDelay_16 ?_
      refine zv_get (pc := 17) (v := .ref (b + (o + 11))) B (zat (zTk.lt ho (k := 0) (by decide)) (zt_trk ho _ _ _)) cl4 inX4 2 (by decide) wf_X4_20 rfl dX4_findDelay_17 ?_
      refine zv_iload_n (pc := 20) B 1 rfl dX4_findDelay_20 ?_
      refine zv_rald (pc := 21) (jj := nd) (q1 := b + (o + 12 + nd)) B (zat (ho.lt (by decide)) (zt_blk ho _ _ _)) rfl hnd (by decide) (if_pos hnd) dX4_findDelay_21 ?_
      refine zv_iload (pc := 22) B 3 rfl dX4_findDelay_22 ?_
      refine zv_aload_n (pc := 24) B 0 rfl dX4_findDelay_24 ?_
      refine zv_get (pc := 25) (v := .ref (b + (o + 24))) B (zat (zTk.lt ho (k := 0) (by decide)) (zt_trk ho _ _ _)) cl4 inX4 5 (by decide) wf_X4_30 rfl dX4_findDelay_25 ?_
      refine zv_iload_n (pc := 28) B 1 rfl dX4_findDelay_28 ?_
      refine zv_rald (pc := 29) (jj := nd) (q1 := b + (o + 25 + nd)) B (zat (ho.lt (by decide)) (zt_kps ho _ _ _)) rfl hnd (by decide) (if_pos hnd) dX4_findDelay_29 ?_
      refine zv_iload_n (pc := 30) B 4 rfl dX4_findDelay_30 ?_
      refine zv_iald (pc := 31) (jj := (zn x)) B (zat (by have h9 : nd < 10 := hnd; have := zTk.lt ho (k := 25 + nd) (by omega); omega) (zt_kp ho hnd _ _ _)) (zn_eq x) hx (by decide) dX4_findDelay_31 ?_
      refine zv_topi (y := c (o + 25 + nd) (zn x)) (by rw [hF1 (o + 25 + nd) (by have h8 : nd < 10 := hnd; omega)]) ?_
      refine zs_iast (pc := 32) (jj := i) B zid (by have h9 : nd < 10 := hnd; have := zTk.lt ho (k := 12 + nd) (by omega); omega) (zt_br_e ho hnd) (fun x w e => zt_br ho hnd x w e) rfl (by omega) (by decide) dX4_findDelay_32 ?_
      refine zv_aload_n (pc := 33) B 0 rfl dX4_findDelay_33 ?_
      refine zv_iload_n (pc := 34) B 1 rfl dX4_findDelay_34 ?_
      refine zv_iload_n (pc := 35) B 4 rfl dX4_findDelay_35 ?_
      refine zv_callV (pc := 36) (As := [.int (nI nd), .int x]) (rest := []) B (k_X4_nextOldest l E b _ _ _ _ ho hnd x (zG.free hg1 (by have h8 : nd < 10 := hnd; unfold zfree; omega))) (zcwV 2 0 B wm_X4_125 wi_X4_nextOldest wv_X4_nextOldest wn_X4 wcode_X4_nextOldest rfl (by decide +kernel) ⟨(Nat.le_of_ble_eq_true rfl), (Nat.le_of_ble_eq_true rfl)⟩) rfl (zrecv B (zat (zTk.lt ho (k := 0) (by decide)) (zt_trk ho _ _ _)) cl4) zid rfl (Nat.le_of_ble_eq_true rfl) dX4_findDelay_36 ⟨(Nat.le_of_ble_eq_true rfl), (Nat.le_of_ble_eq_true rfl)⟩ (fun v9 u9 hv9 => ?_)
      subst hv9
      refine zv_st (st' := [.int (m_X4_nextOldest (zup c1 (o + 12 + nd) i (c (o + 25 + nd) (zn x))) o nd x)]) rfl ?_
      refine zv_istore_n (pc := 39) (L' := [(3, .int (m_X4_nextOldest (zup c1 (o + 12 + nd) i (c (o + 25 + nd) (zn x))) o nd x)), (0, .ref (b + o)), (1, .int (nI nd)), (2, .int (nI z)), (4, .int (nI i))]) B (by decide) rfl dX4_findDelay_39 ?_
      refine zv_iinc (pc := 40) (v := nI (i + 1)) (L' := [(4, .int (nI (i + 1))), (3, .int (m_X4_nextOldest (zup c1 (o + 12 + nd) i (c (o + 25 + nd) (zn x))) o nd x)), (0, .ref (b + o)), (1, .int (nI nd)), (2, .int (nI z))]) B 4 rfl (nI_1 _) (by decide) rfl dX4_findDelay_40 ?_
      refine zv_goto (pc := 43) (tgt := 10) B rfl dX4_findDelay_43 ?_
      refine zv_loc (L' := [(0, .ref (b + o)), (1, .int (nI nd)), (2, .int (nI z)), (4, .int (nI (i + 1))), (3, .int (m_X4_nextOldest (zup c1 (o + 12 + nd) i (c (o + 25 + nd) (zn x))) o nd x))]) [2, 3, 4, 0, 1] rfl ?_
      exact ih (i + 1) (m_X4_nextOldest (zup c1 (o + 12 + nd) i (c (o + 25 + nd) (zn x))) o nd x) (zup c1 (o + 12 + nd) i (c (o + 25 + nd) (zn x))) (zfr.up hF1 (by have h8 : nd < 10 := hnd; omega)) (zG.free hg1 (by have h8 : nd < 10 := hnd; unfold zfree; omega)) (no_lt (zG.free hg1 (by have h8 : nd < 10 := hnd; unfold zfree; omega)) _ _ hx) (by omega) (Eq.trans (by rw [g1_X4_findDelay]) hE901) hK
  refine zv_loc (L' := [(0, .ref (b + o)), (1, .int (nI nd)), (2, .int (nI z)), (4, .int 0), (3, .int (c (o + 35) nd))]) [2, 3, 4, 0, 1] rfl ?_
  refine loop1 (fun i x c1 => c1) z 0 (c (o + 35) nd) c zfr.refl hg (Nat.lt_succ_of_le (zG.old hg ho nd)) (by omega) (by unfold m_X4_findDelay; rfl) ?_
  intro i x c1 hF1 hg1 hx hx
  intro (hE951 : c1 = m_X4_findDelay c o nd z)
  have hE3 : c1 = m_X4_findDelay c o nd z := hE951
  exact zv_vret (pc := 46) B hr (fun H hP => ⟨(), ⟨rfl, Eq.subst (motive := fun z => zfr (o + 12) (o + 22) (o + 12) (o + 12) c z) hE3 hF1, Eq.subst (motive := fun z => zG z) hE3 hg1⟩, Eq.subst (motive := fun z => zH E b z w en ea H) hE3 hP⟩) (Nat.le_of_ble_eq_true rfl) (Nat.le_of_ble_eq_true rfl) dX4_findDelay_46

def g1_X4_feedDelay (c : Nat → Nat → Int32) (o : Nat) (nd z : Nat)  : Nat → Nat → Int32 → (Nat → Nat → Int32) → (Nat → Int32 → (Nat → Nat → Int32) → (Nat → Nat → Int32)) → (Nat → Nat → Int32)
  | 0, i, x, c1, K => K i x c1
  | n + 1, i, x, c1, K => g1_X4_feedDelay c o nd z n (i + 1) (m_X4_nextOldest (zup c1 (o + 25 + nd) (zn x) (r_X6_cut ((m_X4_inputAt c1 o nd i) + (r_X6_partOf (c (o + 12 + nd) i) (c 5 nd))))) o nd x) (zup c1 (o + 25 + nd) (zn x) (r_X6_cut ((m_X4_inputAt c1 o nd i) + (r_X6_partOf (c (o + 12 + nd) i) (c 5 nd))))) K
def m_X4_feedDelay (c : Nat → Nat → Int32) (o : Nat) (nd z : Nat) : (Nat → Nat → Int32) := g1_X4_feedDelay c o nd z z 0 (c (o + 35) nd) c (fun i x c1 => zup c1 (o + 35) nd x)
set_option maxRecDepth 100000 in
set_option maxHeartbeats 4000000 in
theorem k_X4_feedDelay (l : Launch) (E : zE) (b : Nat) (c : Nat → Nat → Int32) (w : Nat → Int64) (en : Nat → Nat) (ea : Nat → Nat → Int32) {o : Nat} (ho : zTk o) {nd : Nat} (hnd : nd < 10) {z : Nat} (hz : z ≤ 64) (hg : zG c) : zM l yX4_feedDelay (.code yX4_feedDelay cX4_feedDelay 6 none :: zAll) (zRm 2 0 0) E b [.ref (b + o), .int (nI nd), .int (nI z)] (zH E b c w en ea) (fun v9 (_ : Unit) => v9 = none ∧ zfr (o + 25) (o + 36) (o + 25) (o + 25) c (m_X4_feedDelay c o nd z) ∧ zG (m_X4_feedDelay c o nd z)) (fun _ => zH E b (m_X4_feedDelay c o nd z) w en ea) 0 0 := by
  refine zM_of "ToneGraph$Track" (by decide) rfl rfl (Nat.le_of_ble_eq_true rfl) (L0 := [(0, .ref (b + o)), (1, .int (nI nd)), (2, .int (nI z))]) rfl ?_
  intro p e s m args below meth c9 B hr hname
  have ho9 : o = 34 ∨ o = 70 := ho
  have hzz := hz
  have hnn := hnd
  refine zv_aload_n (pc := 0) B 0 rfl dX4_feedDelay_0 ?_
  refine zv_get (pc := 1) (v := .ref (b + (o + 35))) B (zat (zTk.lt ho (k := 0) (by decide)) (zt_trk ho _ _ _)) cl4 inX4 6 (by decide) wf_X4_33 rfl dX4_feedDelay_1 ?_
  refine zv_iload_n (pc := 4) B 1 rfl dX4_feedDelay_4 ?_
  refine zv_iald (pc := 5) (jj := nd) B (zat (ho.lt (by decide)) (zt_old ho _ _ _)) rfl hnd (by decide) dX4_feedDelay_5 ?_
  refine zv_istore_n (pc := 6) (L' := [(3, .int (c (o + 35) nd)), (0, .ref (b + o)), (1, .int (nI nd)), (2, .int (nI z))]) B (by decide) rfl dX4_feedDelay_6 ?_
  refine zv_iconst (pc := 7) (v := 0) B rfl dX4_feedDelay_7 ?_
  refine zv_istore (pc := 8) (L' := [(4, .int 0), (3, .int (c (o + 35) nd)), (0, .ref (b + o)), (1, .int (nI nd)), (2, .int (nI z))]) B (by decide) rfl dX4_feedDelay_8 ?_
  have loop1 : ∀ (K : Nat → Int32 → (Nat → Nat → Int32) → (Nat → Nat → Int32)) (n : Nat) (i : Nat) (x : Int32) (c1 : Nat → Nat → Int32), zfr (o + 25) (o + 35) (o + 25) (o + 25) c c1 → zG c1 → zn x < 60 → i + n = z → g1_X4_feedDelay c o nd z n i x c1 K = m_X4_feedDelay c o nd z → (∀ (i : Nat) (x : Int32) (c1 : Nat → Nat → Int32), zfr (o + 25) (o + 35) (o + 25) (o + 25) c c1 → zG c1 → zn x < 60 → i ≤ z → K i x c1 = m_X4_feedDelay c o nd z → zV p l e (zRm 2 0 0) s m args below meth c9 (MQ below (zQ b (fun v9 (_ : Unit) => v9 = none ∧ zfr (o + 25) (o + 36) (o + 25) (o + 25) c (m_X4_feedDelay c o nd z) ∧ zG (m_X4_feedDelay c o nd z)) (fun _ => zH E b (m_X4_feedDelay c o nd z) w en ea)) args s 0 0 (zA b)) 6 b (zH E b c1 w en ea) 73 [(0, .ref (b + o)), (1, .int (nI nd)), (2, .int (nI z)), (4, .int (nI i)), (3, .int x)] [] 0 0) → zV p l e (zRm 2 0 0) s m args below meth c9 (MQ below (zQ b (fun v9 (_ : Unit) => v9 = none ∧ zfr (o + 25) (o + 36) (o + 25) (o + 25) c (m_X4_feedDelay c o nd z) ∧ zG (m_X4_feedDelay c o nd z)) (fun _ => zH E b (m_X4_feedDelay c o nd z) w en ea)) args s 0 0 (zA b)) 6 b (zH E b c1 w en ea) 10 [(0, .ref (b + o)), (1, .int (nI nd)), (2, .int (nI z)), (4, .int (nI i)), (3, .int x)] [] 0 0 := by
    intro K n
    induction n with
    | zero =>
      intro i x c1 hF1 hg1 hx hi hE901 hK
      refine zv_iload (pc := 10) B 3 rfl dX4_feedDelay_10 ?_
      refine zv_iload_n (pc := 12) B 2 rfl dX4_feedDelay_12 ?_
      refine zv_icmp_ge (pc := 13) (tgt := 73) B dX4_feedDelay_13 rfl (fun _ => ?_) (fun h9 => absurd ((z_le (a := z) (b := i) rfl rfl (by omega) (by omega)).mpr (by omega)) h9)
      exact hK i x c1 hF1 hg1 hx (by omega) (Eq.trans (by rw [g1_X4_feedDelay]) hE901)
    | succ n ih =>
      intro i x c1 hF1 hg1 hx hi hE901 hK
      refine zv_iload (pc := 10) B 3 rfl dX4_feedDelay_10 ?_
      refine zv_iload_n (pc := 12) B 2 rfl dX4_feedDelay_12 ?_
      refine zv_icmp_ge (pc := 13) (tgt := 73) B dX4_feedDelay_13 rfl (fun h9 => absurd h9 (fun q9 => absurd ((z_le (a := z) (b := i) rfl rfl (by omega) (by omega)).mp q9) (by omega))) (fun _ => ?_)
      refine zv_aload_n (pc := 16) B 0 rfl dX4_feedDelay_16 ?_
      refine zv_get (pc := 17) (v := .ref (b + (o + 11))) B (zat (zTk.lt ho (k := 0) (by decide)) (zt_trk ho _ _ _)) cl4 inX4 2 (by decide) wf_X4_20 rfl dX4_feedDelay_17 ?_
      refine zv_iload_n (pc := 20) B 1 rfl dX4_feedDelay_20 ?_
      refine zv_rald (pc := 21) (jj := nd) (q1 := b + (o + 12 + nd)) B (zat (ho.lt (by decide)) (zt_blk ho _ _ _)) rfl hnd (by decide) (if_pos hnd) dX4_feedDelay_21 ?_
      refine zv_iload (pc := 22) B 3 rfl dX4_feedDelay_22 ?_
      refine zv_iald (pc := 24) (jj := i) B (zat (by have h9 : nd < 10 := hnd; have := zTk.lt ho (k := 12 + nd) (by omega); omega) (zt_br ho hnd _ _ _)) rfl (by omega) (by decide) dX4_feedDelay_24 ?_
      refine zv_topi (y := c (o + 12 + nd) i) (by rw [hF1 (o + 12 + nd) (by have h8 : nd < 10 := hnd; omega)]) ?_
      refine zv_aload_n (pc := 25) B 0 rfl dX4_feedDelay_25 ?_
      refine zv_get (pc := 26) (v := .ref (b + 1)) B (zat (zTk.lt ho (k := 0) (by decide)) (zt_trk ho _ _ _)) cl4 inX4 0 (by decide) wf_X4_36 rfl dX4_feedDelay_26 ?_
      refine zv_get (pc := 29) (v := .ref (b + 5)) B (zat (by decide) (z1 _ _ _)) cl0 inX0 5 (by decide) wf_X4_128 rfl dX4_feedDelay_29 ?_
      refine zv_iload_n (pc := 32) B 1 rfl dX4_feedDelay_32 ?_
      refine zv_iald (pc := 33) (jj := nd) B (zat (by decide) (z5 _ _ _)) rfl hnd (by decide) dX4_feedDelay_33 ?_
      refine zv_topi (y := c 5 nd) (by rw [hF1 5 (by omega)]) ?_
      refine zv_callSN (pc := 34) (As := [.int (c (o + 12 + nd) i), .int (c 5 nd)]) (rest := []) B (k_X6_partOf l E b (c (o + 12 + nd) i) (c 5 nd)) ⟨zcnB 2 0 3 B rfl wn_X6 wcode_X6_partOf (by decide +kernel) ⟨(Nat.le_of_ble_eq_true rfl), (Nat.le_of_ble_eq_true rfl)⟩, B.at ws_X6_partOf⟩ rfl zid rfl (Nat.le_of_ble_eq_true rfl) dX4_feedDelay_34 ⟨(Nat.le_of_ble_eq_true rfl), (Nat.le_of_ble_eq_true rfl)⟩ (fun v9 u9 hv9 => ?_)
      subst hv9
      refine zv_st (st' := [.int (r_X6_partOf (c (o + 12 + nd) i) (c 5 nd))]) rfl ?_
      refine zv_istore (pc := 37) (L' := [(5, .int (r_X6_partOf (c (o + 12 + nd) i) (c 5 nd))), (0, .ref (b + o)), (1, .int (nI nd)), (2, .int (nI z)), (4, .int (nI i)), (3, .int x)]) B (by decide) rfl dX4_feedDelay_37 ?_
      refine zv_aload_n (pc := 39) B 1 rfl dX4_feedDelay_39 ?_
      refine zv_get (pc := 40) (v := .ref (b + (o + 24))) B (zat (zTk.lt ho (k := 0) (by decide)) (zt_trk ho _ _ _)) cl4 inX4 5 (by decide) wf_X4_30 rfl dX4_feedDelay_40 ?_
      refine zv_iload_n (pc := 43) B 2 rfl dX4_feedDelay_43 ?_
      refine zv_rald (pc := 44) (jj := nd) (q1 := b + (o + 25 + nd)) B (zat (ho.lt (by decide)) (zt_kps ho _ _ _)) rfl hnd (by decide) (if_pos hnd) dX4_feedDelay_44 ?_
      refine zv_iload_n (pc := 45) B 5 rfl dX4_feedDelay_45 ?_
      refine zv_aload_n (pc := 46) B 1 rfl dX4_feedDelay_46 ?_
      refine zv_iload_n (pc := 47) B 2 rfl dX4_feedDelay_47 ?_
      refine zv_iload (pc := 48) B 4 rfl dX4_feedDelay_48 ?_
      refine zv_callV (pc := 50) (As := [.int (nI nd), .int (nI i)]) (rest := [.int x, .ref (b + (o + 25 + nd))]) B (k_X4_inputAt l E b _ _ _ _ ho hnd (by omega) hg1) (zcwV 2 1 B wm_X4_116 wi_X4_inputAt wv_X4_inputAt wn_X4 wcode_X4_inputAt rfl (by decide +kernel) ⟨(Nat.le_of_ble_eq_true rfl), (Nat.le_of_ble_eq_true rfl)⟩) rfl (zrecv B (zat (zTk.lt ho (k := 0) (by decide)) (zt_trk ho _ _ _)) cl4) zid rfl (Nat.le_of_ble_eq_true rfl) dX4_feedDelay_50 ⟨(Nat.le_of_ble_eq_true rfl), (Nat.le_of_ble_eq_true rfl)⟩ (fun v9 u9 hv9 => ?_)
      subst hv9
      refine zv_st (st' := [.int (m_X4_inputAt c1 o nd i), .int x, .ref (b + (o + 25 + nd))]) rfl ?_
      refine zv_iload (pc := 53) B 0 rfl dX4_feedDelay_53 ?_
      refine zv_iadd (pc := 55) B dX4_feedDelay_55 ?_
      refine zv_callSN (pc := 56) (As := [.int ((m_X4_inputAt c1 o nd i) + (r_X6_partOf (c (o + 12 + nd) i) (c 5 nd)))]) (rest := [.int x, .ref (b + (o + 25 + nd))]) B (k_X6_cut l E b ((m_X4_inputAt c1 o nd i) + (r_X6_partOf (c (o + 12 + nd) i) (c 5 nd)))) ⟨zcnB 1 1 2 B rfl wn_X6 wcode_X6_cut (by decide +kernel) ⟨(Nat.le_of_ble_eq_true rfl), (Nat.le_of_ble_eq_true rfl)⟩, B.at ws_X6_cut⟩ rfl zid rfl (Nat.le_of_ble_eq_true rfl) dX4_feedDelay_56 ⟨(Nat.le_of_ble_eq_true rfl), (Nat.le_of_ble_eq_true rfl)⟩ (fun v9 u9 hv9 => ?_)
      subst hv9
      refine zv_st (st' := [.int (r_X6_cut ((m_X4_inputAt c1 o nd i) + (r_X6_partOf (c (o + 12 + nd) i) (c 5 nd)))), .int x, .ref (b + (o + 25 + nd))]) rfl ?_
      refine zs_iast (pc := 59) (jj := (zn x)) B zid (by have h9 : nd < 10 := hnd; have := zTk.lt ho (k := 25 + nd) (by omega); omega) (zt_kp_e ho hnd) (fun x w e => zt_kp ho hnd x w e) (zn_eq x) hx (by decide) dX4_feedDelay_59 ?_
      refine zv_aload_n (pc := 60) B 1 rfl dX4_feedDelay_60 ?_
      refine zv_iload_n (pc := 61) B 2 rfl dX4_feedDelay_61 ?_
      refine zv_iload_n (pc := 62) B 5 rfl dX4_feedDelay_62 ?_
      refine zv_callV (pc := 63) (As := [.int (nI nd), .int x]) (rest := []) B (k_X4_nextOldest l E b _ _ _ _ ho hnd x (zG.free hg1 (by have h8 : nd < 10 := hnd; unfold zfree; omega))) (zcwV 2 0 B wm_X4_125 wi_X4_nextOldest wv_X4_nextOldest wn_X4 wcode_X4_nextOldest rfl (by decide +kernel) ⟨(Nat.le_of_ble_eq_true rfl), (Nat.le_of_ble_eq_true rfl)⟩) rfl (zrecv B (zat (zTk.lt ho (k := 0) (by decide)) (zt_trk ho _ _ _)) cl4) zid rfl (Nat.le_of_ble_eq_true rfl) dX4_feedDelay_63 ⟨(Nat.le_of_ble_eq_true rfl), (Nat.le_of_ble_eq_true rfl)⟩ (fun v9 u9 hv9 => ?_)
      subst hv9
      refine zv_st (st' := [.int (m_X4_nextOldest (zup c1 (o + 25 + nd) (zn x) (r_X6_cut ((m_X4_inputAt c1 o nd i) + (r_X6_partOf (c (o + 12 + nd) i) (c 5 nd))))) o nd x)]) rfl ?_
      refine zv_istore_n (pc := 66) (L' := [(3, .int (m_X4_nextOldest (zup c1 (o + 25 + nd) (zn x) (r_X6_cut ((m_X4_inputAt c1 o nd i) + (r_X6_partOf (c (o + 12 + nd) i) (c 5 nd))))) o nd x)), (5, .int (r_X6_partOf (c (o + 12 + nd) i) (c 5 nd))), (0, .ref (b + o)), (1, .int (nI nd)), (2, .int (nI z)), (4, .int (nI i))]) B (by decide) rfl dX4_feedDelay_66 ?_
      refine zv_iinc (pc := 67) (v := nI (i + 1)) (L' := [(4, .int (nI (i + 1))), (3, .int (m_X4_nextOldest (zup c1 (o + 25 + nd) (zn x) (r_X6_cut ((m_X4_inputAt c1 o nd i) + (r_X6_partOf (c (o + 12 + nd) i) (c 5 nd))))) o nd x)), (5, .int (r_X6_partOf (c (o + 12 + nd) i) (c 5 nd))), (0, .ref (b + o)), (1, .int (nI nd)), (2, .int (nI z))]) B 5 rfl (nI_1 _) (by decide) rfl dX4_feedDelay_67 ?_
      refine zv_goto (pc := 70) (tgt := 10) B rfl dX4_feedDelay_70 ?_
      refine zv_loc (L' := [(0, .ref (b + o)), (1, .int (nI nd)), (2, .int (nI z)), (4, .int (nI (i + 1))), (3, .int (m_X4_nextOldest (zup c1 (o + 25 + nd) (zn x) (r_X6_cut ((m_X4_inputAt c1 o nd i) + (r_X6_partOf (c (o + 12 + nd) i) (c 5 nd))))) o nd x))]) [3, 4, 5, 0, 1] rfl ?_
      exact ih (i + 1) (m_X4_nextOldest (zup c1 (o + 25 + nd) (zn x) (r_X6_cut ((m_X4_inputAt c1 o nd i) + (r_X6_partOf (c (o + 12 + nd) i) (c 5 nd))))) o nd x) (zup c1 (o + 25 + nd) (zn x) (r_X6_cut ((m_X4_inputAt c1 o nd i) + (r_X6_partOf (c (o + 12 + nd) i) (c 5 nd))))) (zfr.up hF1 (by have h8 : nd < 10 := hnd; omega)) (zG.free hg1 (by have h8 : nd < 10 := hnd; unfold zfree; omega)) (no_lt (zG.free hg1 (by have h8 : nd < 10 := hnd; unfold zfree; omega)) _ _ hx) (by omega) (Eq.trans (by rw [g1_X4_feedDelay]) hE901) hK
  refine zv_loc (L' := [(0, .ref (b + o)), (1, .int (nI nd)), (2, .int (nI z)), (4, .int 0), (3, .int (c (o + 35) nd))]) [2, 3, 4, 0, 1] rfl ?_
  refine loop1 (fun i x c1 => zup c1 (o + 35) nd x) z 0 (c (o + 35) nd) c zfr.refl hg (Nat.lt_succ_of_le (zG.old hg ho nd)) (by omega) (by unfold m_X4_feedDelay; rfl) ?_
  intro i x c1 hF1 hg1 hx hx
  intro (hE951 : zup c1 (o + 35) nd x = m_X4_feedDelay c o nd z)
  refine zv_aload_n (pc := 73) B 0 rfl dX4_feedDelay_73 ?_
  refine zv_get (pc := 74) (v := .ref (b + (o + 35))) B (zat (zTk.lt ho (k := 0) (by decide)) (zt_trk ho _ _ _)) cl4 inX4 6 (by decide) wf_X4_33 rfl dX4_feedDelay_74 ?_
  refine zv_iload_n (pc := 77) B 1 rfl dX4_feedDelay_77 ?_
  refine zv_iload_n (pc := 78) B 4 rfl dX4_feedDelay_78 ?_
  refine zs_iast (pc := 79) (jj := nd) B zid (ho.lt (by decide)) (zt_old_e ho) (fun x w e => zt_old ho x w e) rfl hnd (by decide) dX4_feedDelay_79 ?_
  have hE3 : zup c1 (o + 35) nd x = m_X4_feedDelay c o nd z := hE951
  exact zv_vret (pc := 80) B hr (fun H hP => ⟨(), ⟨rfl, Eq.subst (motive := fun z => zfr (o + 25) (o + 36) (o + 25) (o + 25) c z) hE3 (zfr.up (zfr.call zfr.refl hF1 (by omega)) (by omega)), Eq.subst (motive := fun z => zG z) hE3 (zG.up hg1 (by rw [zBd_old ho]; exact (by have h8 := hx; omega)))⟩, Eq.subst (motive := fun z => zH E b z w en ea H) hE3 hP⟩) (Nat.le_of_ble_eq_true rfl) (Nat.le_of_ble_eq_true rfl) dX4_feedDelay_80

def g1_X4_findFilter (c : Nat → Nat → Int32) (o : Nat) (nd z : Nat)  : Nat → Nat → Int32 → Int32 → (Nat → Nat → Int32) → (Nat → Int32 → Int32 → (Nat → Nat → Int32) → (Nat → Nat → Int32)) → (Nat → Nat → Int32)
  | 0, i, x, y, c1, K => K i x y c1
  | n + 1, i, x, y, c1, K => g1_X4_findFilter c o nd z n (i + 1) (m_X4_inputAt c1 o nd i) (r_X6_cut (((((c 6 nd) * (m_X4_inputAt c1 o nd i)) + ((c 7 nd) * x)) + ((c 8 nd) * y)) / 64)) (zup c1 (o + 12 + nd) i (r_X6_cut (((((c 6 nd) * (m_X4_inputAt c1 o nd i)) + ((c 7 nd) * x)) + ((c 8 nd) * y)) / 64))) K
def m_X4_findFilter (c : Nat → Nat → Int32) (o : Nat) (nd z : Nat) : (Nat → Nat → Int32) := g1_X4_findFilter c o nd z z 0 (c (o + 23) nd) (c (o + 22) nd) c (fun i x y c1 => zup c1 (o + 23) nd x)
set_option maxRecDepth 100000 in
set_option maxHeartbeats 4000000 in
theorem k_X4_findFilter (l : Launch) (E : zE) (b : Nat) (c : Nat → Nat → Int32) (w : Nat → Int64) (en : Nat → Nat) (ea : Nat → Nat → Int32) {o : Nat} (ho : zTk o) {nd : Nat} (hnd : nd < 10) {z : Nat} (hz : z ≤ 64) (hg : zG c) : zM l yX4_findFilter (.code yX4_findFilter cX4_findFilter 8 none :: zAll) (zRm 2 0 0) E b [.ref (b + o), .int (nI nd), .int (nI z)] (zH E b c w en ea) (fun v9 (_ : Unit) => v9 = none ∧ zfr (o + 12) (o + 24) (o + 12) (o + 12) c (m_X4_findFilter c o nd z) ∧ zG (m_X4_findFilter c o nd z)) (fun _ => zH E b (m_X4_findFilter c o nd z) w en ea) 0 0 := by
  refine zM_of "ToneGraph$Track" (by decide) rfl rfl (Nat.le_of_ble_eq_true rfl) (L0 := [(0, .ref (b + o)), (1, .int (nI nd)), (2, .int (nI z))]) rfl ?_
  intro p e s m args below meth c9 B hr hname
  have ho9 : o = 34 ∨ o = 70 := ho
  have hzz := hz
  have hnn := hnd
  refine zv_aload_n (pc := 0) B 0 rfl dX4_findFilter_0 ?_
  refine zv_get (pc := 1) (v := .ref (b + (o + 23))) B (zat (zTk.lt ho (k := 0) (by decide)) (zt_trk ho _ _ _)) cl4 inX4 4 (by decide) wf_X4_27 rfl dX4_findFilter_1 ?_
  refine zv_iload_n (pc := 4) B 1 rfl dX4_findFilter_4 ?_
  refine zv_iald (pc := 5) (jj := nd) B (zat (ho.lt (by decide)) (zt_inb ho _ _ _)) rfl hnd (by decide) dX4_findFilter_5 ?_
  refine zv_istore_n (pc := 6) (L' := [(3, .int (c (o + 23) nd)), (0, .ref (b + o)), (1, .int (nI nd)), (2, .int (nI z))]) B (by decide) rfl dX4_findFilter_6 ?_
  refine zv_aload_n (pc := 7) B 1 rfl dX4_findFilter_7 ?_
  refine zv_get (pc := 8) (v := .ref (b + (o + 22))) B (zat (zTk.lt ho (k := 0) (by decide)) (zt_trk ho _ _ _)) cl4 inX4 3 (by decide) wf_X4_23 rfl dX4_findFilter_8 ?_
  refine zv_iload_n (pc := 11) B 2 rfl dX4_findFilter_11 ?_
  refine zv_iald (pc := 12) (jj := nd) B (zat (ho.lt (by decide)) (zt_lat ho _ _ _)) rfl hnd (by decide) dX4_findFilter_12 ?_
  refine zv_istore (pc := 13) (L' := [(4, .int (c (o + 22) nd)), (3, .int (c (o + 23) nd)), (0, .ref (b + o)), (1, .int (nI nd)), (2, .int (nI z))]) B (by decide) rfl dX4_findFilter_13 ?_
  refine zv_iconst (pc := 15) (v := 0) B rfl dX4_findFilter_15 ?_
  refine zv_istore (pc := 16) (L' := [(5, .int 0), (4, .int (c (o + 22) nd)), (3, .int (c (o + 23) nd)), (0, .ref (b + o)), (1, .int (nI nd)), (2, .int (nI z))]) B (by decide) rfl dX4_findFilter_16 ?_
  have loop1 : ∀ (K : Nat → Int32 → Int32 → (Nat → Nat → Int32) → (Nat → Nat → Int32)) (n : Nat) (i : Nat) (x : Int32) (y : Int32) (c1 : Nat → Nat → Int32), zfr (o + 12) (o + 24) (o + 12) (o + 12) c c1 → zG c1 → i + n = z → g1_X4_findFilter c o nd z n i x y c1 K = m_X4_findFilter c o nd z → (∀ (i : Nat) (x : Int32) (y : Int32) (c1 : Nat → Nat → Int32), zfr (o + 12) (o + 24) (o + 12) (o + 12) c c1 → zG c1 → i ≤ z → K i x y c1 = m_X4_findFilter c o nd z → zV p l e (zRm 2 0 0) s m args below meth c9 (MQ below (zQ b (fun v9 (_ : Unit) => v9 = none ∧ zfr (o + 12) (o + 24) (o + 12) (o + 12) c (m_X4_findFilter c o nd z) ∧ zG (m_X4_findFilter c o nd z)) (fun _ => zH E b (m_X4_findFilter c o nd z) w en ea)) args s 0 0 (zA b)) 8 b (zH E b c1 w en ea) 102 [(0, .ref (b + o)), (1, .int (nI nd)), (2, .int (nI z)), (5, .int (nI i)), (3, .int x), (4, .int y)] [] 0 0) → zV p l e (zRm 2 0 0) s m args below meth c9 (MQ below (zQ b (fun v9 (_ : Unit) => v9 = none ∧ zfr (o + 12) (o + 24) (o + 12) (o + 12) c (m_X4_findFilter c o nd z) ∧ zG (m_X4_findFilter c o nd z)) (fun _ => zH E b (m_X4_findFilter c o nd z) w en ea)) args s 0 0 (zA b)) 8 b (zH E b c1 w en ea) 18 [(0, .ref (b + o)), (1, .int (nI nd)), (2, .int (nI z)), (5, .int (nI i)), (3, .int x), (4, .int y)] [] 0 0 := by
    intro K n
    induction n with
    | zero =>
      intro i x y c1 hF1 hg1 hi hE901 hK
      refine zv_iload (pc := 18) B 3 rfl dX4_findFilter_18 ?_
      refine zv_iload_n (pc := 20) B 2 rfl dX4_findFilter_20 ?_
      refine zv_icmp_ge (pc := 21) (tgt := 102) B dX4_findFilter_21 rfl (fun _ => ?_) (fun h9 => absurd ((z_le (a := z) (b := i) rfl rfl (by omega) (by omega)).mpr (by omega)) h9)
      exact hK i x y c1 hF1 hg1 (by omega) (Eq.trans (by rw [g1_X4_findFilter]) hE901)
    | succ n ih =>
      intro i x y c1 hF1 hg1 hi hE901 hK
      refine zv_iload (pc := 18) B 3 rfl dX4_findFilter_18 ?_
      refine zv_iload_n (pc := 20) B 2 rfl dX4_findFilter_20 ?_
      refine zv_icmp_ge (pc := 21) (tgt := 102) B dX4_findFilter_21 rfl (fun h9 => absurd h9 (fun q9 => absurd ((z_le (a := z) (b := i) rfl rfl (by omega) (by omega)).mp q9) (by omega))) (fun _ => ?_)
      refine zv_aload_n (pc := 24) B 0 rfl dX4_findFilter_24 ?_
      refine zv_iload_n (pc := 25) B 1 rfl dX4_findFilter_25 ?_
      refine zv_iload (pc := 26) B 3 rfl dX4_findFilter_26 ?_
      refine zv_callV (pc := 28) (As := [.int (nI nd), .int (nI i)]) (rest := []) B (k_X4_inputAt l E b _ _ _ _ ho hnd (by omega) hg1) (zcwV 2 1 B wm_X4_116 wi_X4_inputAt wv_X4_inputAt wn_X4 wcode_X4_inputAt rfl (by decide +kernel) ⟨(Nat.le_of_ble_eq_true rfl), (Nat.le_of_ble_eq_true rfl)⟩) rfl (zrecv B (zat (zTk.lt ho (k := 0) (by decide)) (zt_trk ho _ _ _)) cl4) zid rfl (Nat.le_of_ble_eq_true rfl) dX4_findFilter_28 ⟨(Nat.le_of_ble_eq_true rfl), (Nat.le_of_ble_eq_true rfl)⟩ (fun v9 u9 hv9 => ?_)
      subst hv9
      refine zv_st (st' := [.int (m_X4_inputAt c1 o nd i)]) rfl ?_
      refine zv_istore (pc := 31) (L' := [(6, .int (m_X4_inputAt c1 o nd i)), (0, .ref (b + o)), (1, .int (nI nd)), (2, .int (nI z)), (5, .int (nI i)), (3, .int x), (4, .int y)]) B (by decide) rfl dX4_findFilter_31 ?_
      refine zv_aload_n (pc := 33) B 1 rfl dX4_findFilter_33 ?_
      refine zv_get (pc := 34) (v := .ref (b + 1)) B (zat (zTk.lt ho (k := 0) (by decide)) (zt_trk ho _ _ _)) cl4 inX4 0 (by decide) wf_X4_36 rfl dX4_findFilter_34 ?_
      refine zv_get (pc := 37) (v := .ref (b + 6)) B (zat (by decide) (z1 _ _ _)) cl0 inX0 6 (by decide) wf_X4_134 rfl dX4_findFilter_37 ?_
      refine zv_iload_n (pc := 40) B 2 rfl dX4_findFilter_40 ?_
      refine zv_iald (pc := 41) (jj := nd) B (zat (by decide) (z6 _ _ _)) rfl hnd (by decide) dX4_findFilter_41 ?_
      refine zv_topi (y := c 6 nd) (by rw [hF1 6 (by omega)]) ?_
      refine zv_iload (pc := 42) B 0 rfl dX4_findFilter_42 ?_
      refine zv_imul (pc := 44) B dX4_findFilter_44 ?_
      refine zv_aload_n (pc := 45) B 1 rfl dX4_findFilter_45 ?_
      refine zv_get (pc := 46) (v := .ref (b + 1)) B (zat (zTk.lt ho (k := 0) (by decide)) (zt_trk ho _ _ _)) cl4 inX4 0 (by decide) wf_X4_36 rfl dX4_findFilter_46 ?_
      refine zv_get (pc := 49) (v := .ref (b + 7)) B (zat (by decide) (z1 _ _ _)) cl0 inX0 7 (by decide) wf_X4_137 rfl dX4_findFilter_49 ?_
      refine zv_iload_n (pc := 52) B 2 rfl dX4_findFilter_52 ?_
      refine zv_iald (pc := 53) (jj := nd) B (zat (by decide) (z7 _ _ _)) rfl hnd (by decide) dX4_findFilter_53 ?_
      refine zv_topi (y := c 7 nd) (by rw [hF1 7 (by omega)]) ?_
      refine zv_iload_n (pc := 54) B 5 rfl dX4_findFilter_54 ?_
      refine zv_imul (pc := 55) B dX4_findFilter_55 ?_
      refine zv_iadd (pc := 56) B dX4_findFilter_56 ?_
      refine zv_aload_n (pc := 57) B 1 rfl dX4_findFilter_57 ?_
      refine zv_get (pc := 58) (v := .ref (b + 1)) B (zat (zTk.lt ho (k := 0) (by decide)) (zt_trk ho _ _ _)) cl4 inX4 0 (by decide) wf_X4_36 rfl dX4_findFilter_58 ?_
      refine zv_get (pc := 61) (v := .ref (b + 8)) B (zat (by decide) (z1 _ _ _)) cl0 inX0 8 (by decide) wf_X4_140 rfl dX4_findFilter_61 ?_
      refine zv_iload_n (pc := 64) B 2 rfl dX4_findFilter_64 ?_
      refine zv_iald (pc := 65) (jj := nd) B (zat (by decide) (z8 _ _ _)) rfl hnd (by decide) dX4_findFilter_65 ?_
      refine zv_topi (y := c 8 nd) (by rw [hF1 8 (by omega)]) ?_
      refine zv_iload (pc := 66) B 6 rfl dX4_findFilter_66 ?_
      refine zv_imul (pc := 68) B dX4_findFilter_68 ?_
      refine zv_iadd (pc := 69) B dX4_findFilter_69 ?_
      refine zv_istore (pc := 70) (L' := [(7, .int ((((c 6 nd) * (m_X4_inputAt c1 o nd i)) + ((c 7 nd) * x)) + ((c 8 nd) * y))), (6, .int (m_X4_inputAt c1 o nd i)), (0, .ref (b + o)), (1, .int (nI nd)), (2, .int (nI z)), (5, .int (nI i)), (3, .int x), (4, .int y)]) B (by decide) rfl dX4_findFilter_70 ?_
      refine zv_iload (pc := 72) B 0 rfl dX4_findFilter_72 ?_
      refine zv_bipush (pc := 74) (v := 64) B rfl dX4_findFilter_74 ?_
      refine zv_idiv (pc := 76) B (by decide) dX4_findFilter_76 ?_
      refine zv_callSN (pc := 77) (As := [.int (((((c 6 nd) * (m_X4_inputAt c1 o nd i)) + ((c 7 nd) * x)) + ((c 8 nd) * y)) / 64)]) (rest := []) B (k_X6_cut l E b (((((c 6 nd) * (m_X4_inputAt c1 o nd i)) + ((c 7 nd) * x)) + ((c 8 nd) * y)) / 64)) ⟨zcnB 1 1 2 B rfl wn_X6 wcode_X6_cut (by decide +kernel) ⟨(Nat.le_of_ble_eq_true rfl), (Nat.le_of_ble_eq_true rfl)⟩, B.at ws_X6_cut⟩ rfl zid rfl (Nat.le_of_ble_eq_true rfl) dX4_findFilter_77 ⟨(Nat.le_of_ble_eq_true rfl), (Nat.le_of_ble_eq_true rfl)⟩ (fun v9 u9 hv9 => ?_)
      subst hv9
      refine zv_st (st' := [.int (r_X6_cut (((((c 6 nd) * (m_X4_inputAt c1 o nd i)) + ((c 7 nd) * x)) + ((c 8 nd) * y)) / 64))]) rfl ?_
      refine zv_istore (pc := 80) (L' := [(4, .int (r_X6_cut (((((c 6 nd) * (m_X4_inputAt c1 o nd i)) + ((c 7 nd) * x)) + ((c 8 nd) * y)) / 64))), (7, .int ((((c 6 nd) * (m_X4_inputAt c1 o nd i)) + ((c 7 nd) * x)) + ((c 8 nd) * y))), (6, .int (m_X4_inputAt c1 o nd i)), (0, .ref (b + o)), (1, .int (nI nd)), (2, .int (nI z)), (5, .int (nI i)), (3, .int x)]) B (by decide) rfl dX4_findFilter_80 ?_
      refine zv_aload_n (pc := 82) B 3 rfl dX4_findFilter_82 ?_
      refine zv_get (pc := 83) (v := .ref (b + (o + 11))) B (zat (zTk.lt ho (k := 0) (by decide)) (zt_trk ho _ _ _)) cl4 inX4 2 (by decide) wf_X4_20 rfl dX4_findFilter_83 ?_
      refine zv_iload_n (pc := 86) B 4 rfl dX4_findFilter_86 ?_
      refine zv_rald (pc := 87) (jj := nd) (q1 := b + (o + 12 + nd)) B (zat (ho.lt (by decide)) (zt_blk ho _ _ _)) rfl hnd (by decide) (if_pos hnd) dX4_findFilter_87 ?_
      refine zv_iload (pc := 88) B 6 rfl dX4_findFilter_88 ?_
      refine zv_iload (pc := 90) B 0 rfl dX4_findFilter_90 ?_
      refine zs_iast (pc := 92) (jj := i) B zid (by have h9 : nd < 10 := hnd; have := zTk.lt ho (k := 12 + nd) (by omega); omega) (zt_br_e ho hnd) (fun x w e => zt_br ho hnd x w e) rfl (by omega) (by decide) dX4_findFilter_92 ?_
      refine zv_iload (pc := 93) B 2 rfl dX4_findFilter_93 ?_
      refine zv_istore_n (pc := 95) (L' := [(3, .int (m_X4_inputAt c1 o nd i)), (4, .int (r_X6_cut (((((c 6 nd) * (m_X4_inputAt c1 o nd i)) + ((c 7 nd) * x)) + ((c 8 nd) * y)) / 64))), (7, .int ((((c 6 nd) * (m_X4_inputAt c1 o nd i)) + ((c 7 nd) * x)) + ((c 8 nd) * y))), (6, .int (m_X4_inputAt c1 o nd i)), (0, .ref (b + o)), (1, .int (nI nd)), (2, .int (nI z)), (5, .int (nI i))]) B (by decide) rfl dX4_findFilter_95 ?_
      refine zv_iinc (pc := 96) (v := nI (i + 1)) (L' := [(5, .int (nI (i + 1))), (3, .int (m_X4_inputAt c1 o nd i)), (4, .int (r_X6_cut (((((c 6 nd) * (m_X4_inputAt c1 o nd i)) + ((c 7 nd) * x)) + ((c 8 nd) * y)) / 64))), (7, .int ((((c 6 nd) * (m_X4_inputAt c1 o nd i)) + ((c 7 nd) * x)) + ((c 8 nd) * y))), (6, .int (m_X4_inputAt c1 o nd i)), (0, .ref (b + o)), (1, .int (nI nd)), (2, .int (nI z))]) B 7 rfl (nI_1 _) (by decide) rfl dX4_findFilter_96 ?_
      refine zv_goto (pc := 99) (tgt := 18) B rfl dX4_findFilter_99 ?_
      refine zv_loc (L' := [(0, .ref (b + o)), (1, .int (nI nd)), (2, .int (nI z)), (5, .int (nI (i + 1))), (3, .int (m_X4_inputAt c1 o nd i)), (4, .int (r_X6_cut (((((c 6 nd) * (m_X4_inputAt c1 o nd i)) + ((c 7 nd) * x)) + ((c 8 nd) * y)) / 64)))]) [5, 6, 7, 0, 1, 2] rfl ?_
      exact ih (i + 1) (m_X4_inputAt c1 o nd i) (r_X6_cut (((((c 6 nd) * (m_X4_inputAt c1 o nd i)) + ((c 7 nd) * x)) + ((c 8 nd) * y)) / 64)) (zup c1 (o + 12 + nd) i (r_X6_cut (((((c 6 nd) * (m_X4_inputAt c1 o nd i)) + ((c 7 nd) * x)) + ((c 8 nd) * y)) / 64))) (zfr.up hF1 (by have h8 : nd < 10 := hnd; omega)) (zG.free hg1 (by have h8 : nd < 10 := hnd; unfold zfree; omega)) (by omega) (Eq.trans (by rw [g1_X4_findFilter]) hE901) hK
  refine zv_loc (L' := [(0, .ref (b + o)), (1, .int (nI nd)), (2, .int (nI z)), (5, .int 0), (3, .int (c (o + 23) nd)), (4, .int (c (o + 22) nd))]) [3, 4, 5, 0, 2, 1] rfl ?_
  refine loop1 (fun i x y c1 => zup c1 (o + 23) nd x) z 0 (c (o + 23) nd) (c (o + 22) nd) c zfr.refl hg (by omega) (by unfold m_X4_findFilter; rfl) ?_
  intro i x y c1 hF1 hg1 hx
  intro (hE951 : zup c1 (o + 23) nd x = m_X4_findFilter c o nd z)
  refine zv_aload_n (pc := 102) B 0 rfl dX4_findFilter_102 ?_
  refine zv_get (pc := 103) (v := .ref (b + (o + 23))) B (zat (zTk.lt ho (k := 0) (by decide)) (zt_trk ho _ _ _)) cl4 inX4 4 (by decide) wf_X4_27 rfl dX4_findFilter_103 ?_
  refine zv_iload_n (pc := 106) B 1 rfl dX4_findFilter_106 ?_
  refine zv_iload_n (pc := 107) B 4 rfl dX4_findFilter_107 ?_
  refine zs_iast (pc := 108) (jj := nd) B zid (ho.lt (by decide)) (zt_inb_e ho) (fun x w e => zt_inb ho x w e) rfl hnd (by decide) dX4_findFilter_108 ?_
  have hE3 : zup c1 (o + 23) nd x = m_X4_findFilter c o nd z := hE951
  exact zv_vret (pc := 109) B hr (fun H hP => ⟨(), ⟨rfl, Eq.subst (motive := fun z => zfr (o + 12) (o + 24) (o + 12) (o + 12) c z) hE3 (zfr.up hF1 (by omega)), Eq.subst (motive := fun z => zG z) hE3 (zG.free hg1 (by unfold zfree; omega))⟩, Eq.subst (motive := fun z => zH E b z w en ea H) hE3 hP⟩) (Nat.le_of_ble_eq_true rfl) (Nat.le_of_ble_eq_true rfl) dX4_findFilter_109

def g3_X4_findVoices (c : Nat → Nat → Int32) (ea : Nat → Nat → Int32) (o : Nat) (nd z : Nat)  : Nat → Nat → (Nat → Nat → Int32) → (Nat → (Nat → Nat → Int32) → (Nat → Nat → Int32)) → (Nat → Nat → Int32)
  | 0, i, c3, K => K i c3
  | n + 1, i, c3, K => g3_X4_findVoices c ea o nd z n (i + 1) (zup c3 (o + 12 + nd) i (r_X6_cut (c3 (o + 12 + nd) i))) K
def g2_X4_findVoices (c : Nat → Nat → Int32) (ea : Nat → Nat → Int32) (o : Nat) (nd z : Nat)  : Nat → Nat → (Nat → Nat → Int32) → (Nat → (Nat → Nat → Int32) → (Nat → Nat → Int32)) → (Nat → Nat → Int32)
  | 0, v, c2, K => K v c2
  | n + 1, v, c2, K => g2_X4_findVoices c ea o nd z n (v + 1) (m_X5_addSamples c2 ea o v nd z) K
def g1_X4_findVoices (c : Nat → Nat → Int32) (ea : Nat → Nat → Int32) (o : Nat) (nd z : Nat)  : Nat → Nat → (Nat → Nat → Int32) → (Nat → (Nat → Nat → Int32) → (Nat → Nat → Int32)) → (Nat → Nat → Int32)
  | 0, i, c1, K => K i c1
  | n + 1, i, c1, K => g1_X4_findVoices c ea o nd z n (i + 1) (zup c1 (o + 12 + nd) i 0) K
def m_X4_findVoices (c : Nat → Nat → Int32) (ea : Nat → Nat → Int32) (o : Nat) (nd z : Nat) : (Nat → Nat → Int32) := g1_X4_findVoices c ea o nd z z 0 c (fun i c1 => g2_X4_findVoices c ea o nd z 4 0 c1 (fun v c2 => g3_X4_findVoices c ea o nd z z 0 c2 (fun i c3 => c3)))
set_option maxRecDepth 100000 in
set_option maxHeartbeats 4000000 in
theorem k_X4_findVoices (l : Launch) (E : zE) (b : Nat) (c : Nat → Nat → Int32) (w : Nat → Int64) (en : Nat → Nat) (ea : Nat → Nat → Int32) {o : Nat} (ho : zTk o) {nd : Nat} (hnd : nd < 10) {z : Nat} (hz : z ≤ 64) (hg : zG c) : zM l yX4_findVoices (.code yX4_findVoices cX4_findVoices 5 none :: zAll) (zRm 2 0 0) E b [.ref (b + o), .int (nI nd), .int (nI z)] (zH E b c w en ea) (fun v9 (_ : Unit) => v9 = none ∧ zfr (o + 3) (o + 22) (o + 3) (o + 3) c (m_X4_findVoices c ea o nd z) ∧ zG (m_X4_findVoices c ea o nd z)) (fun _ => zH E b (m_X4_findVoices c ea o nd z) w en ea) 0 0 := by
  refine zM_of "ToneGraph$Track" (by decide) rfl rfl (Nat.le_of_ble_eq_true rfl) (L0 := [(0, .ref (b + o)), (1, .int (nI nd)), (2, .int (nI z))]) rfl ?_
  intro p e s m args below meth c9 B hr hname
  have ho9 : o = 34 ∨ o = 70 := ho
  have hzz := hz
  have hnn := hnd
  refine zv_aload_n (pc := 0) B 0 rfl dX4_findVoices_0 ?_
  refine zv_get (pc := 1) (v := .ref (b + (o + 11))) B (zat (zTk.lt ho (k := 0) (by decide)) (zt_trk ho _ _ _)) cl4 inX4 2 (by decide) wf_X4_20 rfl dX4_findVoices_1 ?_
  refine zv_iload_n (pc := 4) B 1 rfl dX4_findVoices_4 ?_
  refine zv_rald (pc := 5) (jj := nd) (q1 := b + (o + 12 + nd)) B (zat (ho.lt (by decide)) (zt_blk ho _ _ _)) rfl hnd (by decide) (if_pos hnd) dX4_findVoices_5 ?_
  refine zv_astore_n (pc := 6) (L' := [(3, .ref (b + (o + 12 + nd))), (0, .ref (b + o)), (1, .int (nI nd)), (2, .int (nI z))]) B (by decide) rfl dX4_findVoices_6 ?_
  refine zv_iconst (pc := 7) (v := 0) B rfl dX4_findVoices_7 ?_
  refine zv_istore (pc := 8) (L' := [(4, .int 0), (3, .ref (b + (o + 12 + nd))), (0, .ref (b + o)), (1, .int (nI nd)), (2, .int (nI z))]) B (by decide) rfl dX4_findVoices_8 ?_
  have loop1 : ∀ (K : Nat → (Nat → Nat → Int32) → (Nat → Nat → Int32)) (n : Nat) (i : Nat) (c1 : Nat → Nat → Int32), zfr (o + 3) (o + 22) (o + 3) (o + 3) c c1 → zG c1 → i + n = z → g1_X4_findVoices c ea o nd z n i c1 K = m_X4_findVoices c ea o nd z → (∀ (i : Nat) (c1 : Nat → Nat → Int32), zfr (o + 3) (o + 22) (o + 3) (o + 3) c c1 → zG c1 → i ≤ z → K i c1 = m_X4_findVoices c ea o nd z → zV p l e (zRm 2 0 0) s m args below meth c9 (MQ below (zQ b (fun v9 (_ : Unit) => v9 = none ∧ zfr (o + 3) (o + 22) (o + 3) (o + 3) c (m_X4_findVoices c ea o nd z) ∧ zG (m_X4_findVoices c ea o nd z)) (fun _ => zH E b (m_X4_findVoices c ea o nd z) w en ea)) args s 0 0 (zA b)) 5 b (zH E b c1 w en ea) 27 [(0, .ref (b + o)), (1, .int (nI nd)), (2, .int (nI z)), (3, .ref (b + (o + 12 + nd))), (4, .int (nI i))] [] 0 0) → zV p l e (zRm 2 0 0) s m args below meth c9 (MQ below (zQ b (fun v9 (_ : Unit) => v9 = none ∧ zfr (o + 3) (o + 22) (o + 3) (o + 3) c (m_X4_findVoices c ea o nd z) ∧ zG (m_X4_findVoices c ea o nd z)) (fun _ => zH E b (m_X4_findVoices c ea o nd z) w en ea)) args s 0 0 (zA b)) 5 b (zH E b c1 w en ea) 10 [(0, .ref (b + o)), (1, .int (nI nd)), (2, .int (nI z)), (3, .ref (b + (o + 12 + nd))), (4, .int (nI i))] [] 0 0 := by
    intro K n
    induction n with
    | zero =>
      intro i c1 hF1 hg1 hi hE901 hK
      refine zv_iload (pc := 10) B 4 rfl dX4_findVoices_10 ?_
      refine zv_iload_n (pc := 12) B 2 rfl dX4_findVoices_12 ?_
      refine zv_icmp_ge (pc := 13) (tgt := 27) B dX4_findVoices_13 rfl (fun _ => ?_) (fun h9 => absurd ((z_le (a := z) (b := i) rfl rfl (by omega) (by omega)).mpr (by omega)) h9)
      exact hK i c1 hF1 hg1 (by omega) (Eq.trans (by rw [g1_X4_findVoices]) hE901)
    | succ n ih =>
      intro i c1 hF1 hg1 hi hE901 hK
      refine zv_iload (pc := 10) B 4 rfl dX4_findVoices_10 ?_
      refine zv_iload_n (pc := 12) B 2 rfl dX4_findVoices_12 ?_
      refine zv_icmp_ge (pc := 13) (tgt := 27) B dX4_findVoices_13 rfl (fun h9 => absurd h9 (fun q9 => absurd ((z_le (a := z) (b := i) rfl rfl (by omega) (by omega)).mp q9) (by omega))) (fun _ => ?_)
      refine zv_aload_n (pc := 16) B 3 rfl dX4_findVoices_16 ?_
      refine zv_iload (pc := 17) B 4 rfl dX4_findVoices_17 ?_
      refine zv_iconst (pc := 19) (v := 0) B rfl dX4_findVoices_19 ?_
      refine zs_iast (pc := 20) (jj := i) B zid (by have h9 : nd < 10 := hnd; have := zTk.lt ho (k := 12 + nd) (by omega); omega) (zt_br_e ho hnd) (fun x w e => zt_br ho hnd x w e) rfl (by omega) (by decide) dX4_findVoices_20 ?_
      refine zv_iinc (pc := 21) (v := nI (i + 1)) (L' := [(4, .int (nI (i + 1))), (0, .ref (b + o)), (1, .int (nI nd)), (2, .int (nI z)), (3, .ref (b + (o + 12 + nd)))]) B 4 rfl (nI_1 _) (by decide) rfl dX4_findVoices_21 ?_
      refine zv_goto (pc := 24) (tgt := 10) B rfl dX4_findVoices_24 ?_
      refine zv_loc (L' := [(0, .ref (b + o)), (1, .int (nI nd)), (2, .int (nI z)), (3, .ref (b + (o + 12 + nd))), (4, .int (nI (i + 1)))]) [1, 2, 3, 4, 0] rfl ?_
      exact ih (i + 1) (zup c1 (o + 12 + nd) i 0) (zfr.up hF1 (by have h8 : nd < 10 := hnd; omega)) (zG.free hg1 (by have h8 : nd < 10 := hnd; unfold zfree; omega)) (by omega) (Eq.trans (by rw [g1_X4_findVoices]) hE901) hK
  refine zv_loc (L' := [(0, .ref (b + o)), (1, .int (nI nd)), (2, .int (nI z)), (3, .ref (b + (o + 12 + nd))), (4, .int 0)]) [2, 3, 4, 1, 0] rfl ?_
  refine loop1 (fun i c1 => g2_X4_findVoices c ea o nd z 4 0 c1 (fun v c2 => g3_X4_findVoices c ea o nd z z 0 c2 (fun i c3 => c3))) z 0 c zfr.refl hg (by omega) (by unfold m_X4_findVoices; rfl) ?_
  intro i c1 hF1 hg1 hx
  intro (hE951 : g2_X4_findVoices c ea o nd z 4 0 c1 (fun v c2 => g3_X4_findVoices c ea o nd z z 0 c2 (fun i c3 => c3)) = m_X4_findVoices c ea o nd z)
  refine zv_iconst (pc := 27) (v := 0) B rfl dX4_findVoices_27 ?_
  refine zv_istore (pc := 28) (L' := [(4, .int 0), (0, .ref (b + o)), (1, .int (nI nd)), (2, .int (nI z)), (3, .ref (b + (o + 12 + nd)))]) B (by decide) rfl dX4_findVoices_28 ?_
  have loop2 : ∀ (K : Nat → (Nat → Nat → Int32) → (Nat → Nat → Int32)) (n : Nat) (v : Nat) (c2 : Nat → Nat → Int32), zfr (o + 3) (o + 22) (o + 3) (o + 3) c c2 → zG c2 → v + n = 4 → g2_X4_findVoices c ea o nd z n v c2 K = m_X4_findVoices c ea o nd z → (∀ (v : Nat) (c2 : Nat → Nat → Int32), zfr (o + 3) (o + 22) (o + 3) (o + 3) c c2 → zG c2 → v ≤ 4 → K v c2 = m_X4_findVoices c ea o nd z → zV p l e (zRm 2 0 0) s m args below meth c9 (MQ below (zQ b (fun v9 (_ : Unit) => v9 = none ∧ zfr (o + 3) (o + 22) (o + 3) (o + 3) c (m_X4_findVoices c ea o nd z) ∧ zG (m_X4_findVoices c ea o nd z)) (fun _ => zH E b (m_X4_findVoices c ea o nd z) w en ea)) args s 0 0 (zA b)) 5 b (zH E b c2 w en ea) 57 [(0, .ref (b + o)), (1, .int (nI nd)), (2, .int (nI z)), (3, .ref (b + (o + 12 + nd))), (4, .int (nI v))] [] 0 0) → zV p l e (zRm 2 0 0) s m args below meth c9 (MQ below (zQ b (fun v9 (_ : Unit) => v9 = none ∧ zfr (o + 3) (o + 22) (o + 3) (o + 3) c (m_X4_findVoices c ea o nd z) ∧ zG (m_X4_findVoices c ea o nd z)) (fun _ => zH E b (m_X4_findVoices c ea o nd z) w en ea)) args s 0 0 (zA b)) 5 b (zH E b c2 w en ea) 30 [(0, .ref (b + o)), (1, .int (nI nd)), (2, .int (nI z)), (3, .ref (b + (o + 12 + nd))), (4, .int (nI v))] [] 0 0 := by
    intro K n
    induction n with
    | zero =>
      intro v c2 hF2 hg2 hi hE902 hK
      refine zv_iload (pc := 30) B 4 rfl dX4_findVoices_30 ?_
      refine zv_iconst (pc := 32) (v := 4) B rfl dX4_findVoices_32 ?_
      refine zv_icmp_ge (pc := 33) (tgt := 57) B dX4_findVoices_33 rfl (fun _ => ?_) (fun h9 => absurd ((z_le (a := 4) (b := v) rfl rfl (by omega) (by omega)).mpr (by omega)) h9)
      exact hK v c2 hF2 hg2 (by omega) (Eq.trans (by rw [g2_X4_findVoices]) hE902)
    | succ n ih =>
      intro v c2 hF2 hg2 hi hE902 hK
      refine zv_iload (pc := 30) B 4 rfl dX4_findVoices_30 ?_
      refine zv_iconst (pc := 32) (v := 4) B rfl dX4_findVoices_32 ?_
      refine zv_icmp_ge (pc := 33) (tgt := 57) B dX4_findVoices_33 rfl (fun h9 => absurd h9 (fun q9 => absurd ((z_le (a := 4) (b := v) rfl rfl (by omega) (by omega)).mp q9) (by omega))) (fun _ => ?_)
      refine zv_aload_n (pc := 36) B 0 rfl dX4_findVoices_36 ?_
      refine zv_get (pc := 37) (v := .ref (b + (o + 1))) B (zat (zTk.lt ho (k := 0) (by decide)) (zt_trk ho _ _ _)) cl4 inX4 1 (by decide) wf_X4_12 rfl dX4_findVoices_37 ?_
      refine zv_get (pc := 40) (v := .ref (b + (o + 2))) B (zat (ho.lt (by decide)) (zt_chr ho _ _ _)) cl1 inX1 0 (by decide) wf_X4_102 rfl dX4_findVoices_40 ?_
      refine zv_iload (pc := 43) B 4 rfl dX4_findVoices_43 ?_
      refine zv_vald (pc := 45) (jj := v) (q1 := b + (o + 3 + 2 * v)) B (zat (ho.lt (by decide)) (zt_vcs ho _ _ _)) rfl (by omega) (by decide) (if_pos (by omega)) dX4_findVoices_45 ?_
      refine zv_aload_n (pc := 46) B 3 rfl dX4_findVoices_46 ?_
      refine zv_iload_n (pc := 47) B 2 rfl dX4_findVoices_47 ?_
      refine zv_callV (pc := 48) (As := [.ref (b + (o + 12 + nd)), .int (nI z)]) (rest := []) B (k_X5_addSamples l E b _ _ _ _ ho (by omega) hnd hz hg2) (zcwV 2 1 B wm_X4_106 wi_X5_addSamples wv_X5_addSamples wn_X5 wcode_X5_addSamples rfl (by decide +kernel) ⟨(Nat.le_of_ble_eq_true rfl), (Nat.le_of_ble_eq_true rfl)⟩) rfl (zrecv B (zat (by have h9 : v < 4 := (by omega); have := zTk.lt ho (k := 3 + 2 * v) (by omega); omega) (zt_vc ho (by omega) _ _ _)) cl5) zid rfl (Nat.le_of_ble_eq_true rfl) dX4_findVoices_48 ⟨(Nat.le_of_ble_eq_true rfl), (Nat.le_of_ble_eq_true rfl)⟩ (fun v9 u9 hv9 => ?_)
      obtain ⟨rfl, hF2005, hg2005⟩ := hv9
      refine zv_st (st' := []) rfl ?_
      refine zv_iinc (pc := 51) (v := nI (v + 1)) (L' := [(4, .int (nI (v + 1))), (0, .ref (b + o)), (1, .int (nI nd)), (2, .int (nI z)), (3, .ref (b + (o + 12 + nd)))]) B 4 rfl (nI_1 _) (by decide) rfl dX4_findVoices_51 ?_
      refine zv_goto (pc := 54) (tgt := 30) B rfl dX4_findVoices_54 ?_
      refine zv_loc (L' := [(0, .ref (b + o)), (1, .int (nI nd)), (2, .int (nI z)), (3, .ref (b + (o + 12 + nd))), (4, .int (nI (v + 1)))]) [1, 2, 3, 4, 0] rfl ?_
      exact ih (v + 1) (m_X5_addSamples c2 ea o v nd z) (zfr.call hF2 hF2005 (by have h8 : v < 4 := (by omega); have h8 : nd < 10 := hnd; omega)) hg2005 (by omega) (Eq.trans (by rw [g2_X4_findVoices]) hE902) hK
  refine zv_loc (L' := [(0, .ref (b + o)), (1, .int (nI nd)), (2, .int (nI z)), (3, .ref (b + (o + 12 + nd))), (4, .int 0)]) [1, 2, 3, 4, 0] rfl ?_
  refine loop2 (fun v c2 => g3_X4_findVoices c ea o nd z z 0 c2 (fun i c3 => c3)) 4 0 c1 hF1 hg1 (by omega) hE951 ?_
  intro v c2 hF2 hg2 hx
  intro (hE952 : g3_X4_findVoices c ea o nd z z 0 c2 (fun i c3 => c3) = m_X4_findVoices c ea o nd z)
  refine zv_iconst (pc := 57) (v := 0) B rfl dX4_findVoices_57 ?_
  refine zv_istore (pc := 58) (L' := [(4, .int 0), (0, .ref (b + o)), (1, .int (nI nd)), (2, .int (nI z)), (3, .ref (b + (o + 12 + nd)))]) B (by decide) rfl dX4_findVoices_58 ?_
  have loop3 : ∀ (K : Nat → (Nat → Nat → Int32) → (Nat → Nat → Int32)) (n : Nat) (i : Nat) (c3 : Nat → Nat → Int32), zfr (o + 3) (o + 22) (o + 3) (o + 3) c c3 → zG c3 → i + n = z → g3_X4_findVoices c ea o nd z n i c3 K = m_X4_findVoices c ea o nd z → (∀ (i : Nat) (c3 : Nat → Nat → Int32), zfr (o + 3) (o + 22) (o + 3) (o + 3) c c3 → zG c3 → i ≤ z → K i c3 = m_X4_findVoices c ea o nd z → zV p l e (zRm 2 0 0) s m args below meth c9 (MQ below (zQ b (fun v9 (_ : Unit) => v9 = none ∧ zfr (o + 3) (o + 22) (o + 3) (o + 3) c (m_X4_findVoices c ea o nd z) ∧ zG (m_X4_findVoices c ea o nd z)) (fun _ => zH E b (m_X4_findVoices c ea o nd z) w en ea)) args s 0 0 (zA b)) 5 b (zH E b c3 w en ea) 83 [(0, .ref (b + o)), (1, .int (nI nd)), (2, .int (nI z)), (3, .ref (b + (o + 12 + nd))), (4, .int (nI i))] [] 0 0) → zV p l e (zRm 2 0 0) s m args below meth c9 (MQ below (zQ b (fun v9 (_ : Unit) => v9 = none ∧ zfr (o + 3) (o + 22) (o + 3) (o + 3) c (m_X4_findVoices c ea o nd z) ∧ zG (m_X4_findVoices c ea o nd z)) (fun _ => zH E b (m_X4_findVoices c ea o nd z) w en ea)) args s 0 0 (zA b)) 5 b (zH E b c3 w en ea) 60 [(0, .ref (b + o)), (1, .int (nI nd)), (2, .int (nI z)), (3, .ref (b + (o + 12 + nd))), (4, .int (nI i))] [] 0 0 := by
    intro K n
    induction n with
    | zero =>
      intro i c3 hF3 hg3 hi hE903 hK
      refine zv_iload (pc := 60) B 4 rfl dX4_findVoices_60 ?_
      refine zv_iload_n (pc := 62) B 2 rfl dX4_findVoices_62 ?_
      refine zv_icmp_ge (pc := 63) (tgt := 83) B dX4_findVoices_63 rfl (fun _ => ?_) (fun h9 => absurd ((z_le (a := z) (b := i) rfl rfl (by omega) (by omega)).mpr (by omega)) h9)
      exact hK i c3 hF3 hg3 (by omega) (Eq.trans (by rw [g3_X4_findVoices]) hE903)
    | succ n ih =>
      intro i c3 hF3 hg3 hi hE903 hK
      refine zv_iload (pc := 60) B 4 rfl dX4_findVoices_60 ?_
      refine zv_iload_n (pc := 62) B 2 rfl dX4_findVoices_62 ?_
      refine zv_icmp_ge (pc := 63) (tgt := 83) B dX4_findVoices_63 rfl (fun h9 => absurd h9 (fun q9 => absurd ((z_le (a := z) (b := i) rfl rfl (by omega) (by omega)).mp q9) (by omega))) (fun _ => ?_)
      refine zv_aload_n (pc := 66) B 3 rfl dX4_findVoices_66 ?_
      refine zv_iload (pc := 67) B 4 rfl dX4_findVoices_67 ?_
      refine zv_aload_n (pc := 69) B 3 rfl dX4_findVoices_69 ?_
      refine zv_iload (pc := 70) B 4 rfl dX4_findVoices_70 ?_
      refine zv_iald (pc := 72) (jj := i) B (zat (by have h9 : nd < 10 := hnd; have := zTk.lt ho (k := 12 + nd) (by omega); omega) (zt_br ho hnd _ _ _)) rfl (by omega) (by decide) dX4_findVoices_72 ?_
      refine zv_callSN (pc := 73) (As := [.int (c3 (o + 12 + nd) i)]) (rest := [.int (nI i), .ref (b + (o + 12 + nd))]) B (k_X6_cut l E b (c3 (o + 12 + nd) i)) ⟨zcnB 1 1 2 B rfl wn_X6 wcode_X6_cut (by decide +kernel) ⟨(Nat.le_of_ble_eq_true rfl), (Nat.le_of_ble_eq_true rfl)⟩, B.at ws_X6_cut⟩ rfl zid rfl (Nat.le_of_ble_eq_true rfl) dX4_findVoices_73 ⟨(Nat.le_of_ble_eq_true rfl), (Nat.le_of_ble_eq_true rfl)⟩ (fun v9 u9 hv9 => ?_)
      subst hv9
      refine zv_st (st' := [.int (r_X6_cut (c3 (o + 12 + nd) i)), .int (nI i), .ref (b + (o + 12 + nd))]) rfl ?_
      refine zs_iast (pc := 76) (jj := i) B zid (by have h9 : nd < 10 := hnd; have := zTk.lt ho (k := 12 + nd) (by omega); omega) (zt_br_e ho hnd) (fun x w e => zt_br ho hnd x w e) rfl (by omega) (by decide) dX4_findVoices_76 ?_
      refine zv_iinc (pc := 77) (v := nI (i + 1)) (L' := [(4, .int (nI (i + 1))), (0, .ref (b + o)), (1, .int (nI nd)), (2, .int (nI z)), (3, .ref (b + (o + 12 + nd)))]) B 4 rfl (nI_1 _) (by decide) rfl dX4_findVoices_77 ?_
      refine zv_goto (pc := 80) (tgt := 60) B rfl dX4_findVoices_80 ?_
      refine zv_loc (L' := [(0, .ref (b + o)), (1, .int (nI nd)), (2, .int (nI z)), (3, .ref (b + (o + 12 + nd))), (4, .int (nI (i + 1)))]) [1, 2, 3, 4, 0] rfl ?_
      exact ih (i + 1) (zup c3 (o + 12 + nd) i (r_X6_cut (c3 (o + 12 + nd) i))) (zfr.up hF3 (by have h8 : nd < 10 := hnd; omega)) (zG.free hg3 (by have h8 : nd < 10 := hnd; unfold zfree; omega)) (by omega) (Eq.trans (by rw [g3_X4_findVoices]) hE903) hK
  refine zv_loc (L' := [(0, .ref (b + o)), (1, .int (nI nd)), (2, .int (nI z)), (3, .ref (b + (o + 12 + nd))), (4, .int 0)]) [1, 2, 3, 4, 0] rfl ?_
  refine loop3 (fun i c3 => c3) z 0 c2 hF2 hg2 (by omega) hE952 ?_
  intro i c3 hF3 hg3 hx
  intro (hE953 : c3 = m_X4_findVoices c ea o nd z)
  have hE8 : c3 = m_X4_findVoices c ea o nd z := hE953
  exact zv_vret (pc := 83) B hr (fun H hP => ⟨(), ⟨rfl, Eq.subst (motive := fun z => zfr (o + 3) (o + 22) (o + 3) (o + 3) c z) hE8 hF3, Eq.subst (motive := fun z => zG z) hE8 hg3⟩, Eq.subst (motive := fun z => zH E b z w en ea H) hE8 hP⟩) (Nat.le_of_ble_eq_true rfl) (Nat.le_of_ble_eq_true rfl) dX4_findVoices_83
