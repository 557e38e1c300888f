theorem zp2 {α β : Type} {x : α × β} {a : α} {b : β} (h : (a, b) = x) : x.1 = a ∧ x.2 = b := by subst h; exact ⟨rfl, rfl⟩
theorem zp3 {α β γ : Type} {x : α × β × γ} {a : α} {b : β} {c : γ} (h : (a, b, c) = x) : x.1 = a ∧ x.2.1 = b ∧ x.2.2 = c := by subst h; exact ⟨rfl, rfl, rfl⟩
theorem zp4 {α β γ δ : Type} {x : α × β × γ × δ} {a : α} {b : β} {c : γ} {d : δ} (h : (a, b, c, d) = x) : x.1 = a ∧ x.2.1 = b ∧ x.2.2.1 = c ∧ x.2.2.2 = d := by subst h; exact ⟨rfl, rfl, rfl, rfl⟩
def g1_X6_perform (c : Nat → Nat → Int32) (w : Nat → Int64) (ea : Nat → Nat → Int32) (z y : Nat)  : Nat → Nat → (Nat → Nat → Int32) → (Nat → Int64) → (Nat → (Nat → Nat → Int32) → (Nat → Int64) → Int32 × (Nat → Nat → Int32) × (Nat → Int64)) → Int32 × (Nat → Nat → Int32) × (Nat → Int64)
  | 0, i, c1, w1, K => K i c1 w1
  | n + 1, i, c1, w1, K => g1_X6_perform c w ea z y n (i + 1) ((m_X3_note c1 w1 (c1 108 i)).1) ((m_X3_note c1 w1 (c1 108 i)).2) K
def m_X6_perform (c : Nat → Nat → Int32) (w : Nat → Int64) (ea : Nat → Nat → Int32) (z y : Nat) : Int32 × (Nat → Nat → Int32) × (Nat → Int64) := g1_X6_perform c w ea z y z 0 (m_X4_find c ea 34 z y 108) w (fun i c1 w1 => (c1 108 (z - 1), c1, w1))
set_option maxRecDepth 100000 in
set_option maxHeartbeats 4000000 in
theorem k_X6_perform (l : Launch) (E : zE) (b : Nat) (c : Nat → Nat → Int32) (w : Nat → Int64) (en : Nat → Nat) (ea : Nat → Nat → Int32) {z : Nat} (h1z : 1 ≤ z) (hz : z ≤ 64) {y : Nat} (hy : y ≤ 64) (hg : zG c) : zM l yX6_perform (.code yX6_perform cX6_perform 4 (some .int) :: zAll) (zRm 6 0 0) E b [.ref (b + 0), .int (nI z), .int (nI y)] (zH E b c w en ea) (fun v9 (_ : Unit) => v9 = some (.int (m_X6_perform c w ea z y).1) ∧ zfr 34 110 34 34 c (m_X6_perform c w ea z y).2.1 ∧ zG (m_X6_perform c w ea z y).2.1) (fun _ => zH E b ((m_X6_perform c w ea z y).2.1) ((m_X6_perform c w ea z y).2.2) en ea) 0 0 := by
  refine zM_of "ToneGraph" (by decide) rfl rfl (Nat.le_of_ble_eq_true rfl) (L0 := [(0, .ref (b + 0)), (1, .int (nI z)), (2, .int (nI y))]) rfl ?_
  intro p e s m args below meth c9 B hr hname
  refine zv_aload_n (pc := 0) B 0 rfl dX6_perform_0 ?_
  refine zv_get (pc := 1) (v := .ref (b + 34)) B (zat (by decide) (z0 _ _ _)) cl6 inX6 1 (by decide) wf_X6_21 rfl dX6_perform_1 ?_
  refine zv_iload_n (pc := 4) B 1 rfl dX6_perform_4 ?_
  refine zv_iload_n (pc := 5) B 2 rfl dX6_perform_5 ?_
  refine zv_aload_n (pc := 6) B 0 rfl dX6_perform_6 ?_
  refine zv_get (pc := 7) (v := .ref (b + 108)) B (zat (by decide) (z0 _ _ _)) cl6 inX6 4 (by decide) wf_X6_35 rfl dX6_perform_7 ?_
  refine zv_callV (pc := 10) (As := [.int (nI z), .int (nI y), .ref (b + 108)]) (rest := []) B (k_X4_find l E b _ _ _ _ (Or.inl rfl) (by omega) (by omega) (Or.inl rfl) hg) (zcwV 3 4 B wm_X6_259 wi_X4_find wv_X4_find wn_X4 wcode_X4_find rfl (by decide +kernel) ⟨(Nat.le_of_ble_eq_true rfl), (Nat.le_of_ble_eq_true rfl)⟩) rfl (zrecv B (zat (zTk.lt (Or.inl rfl) (k := 0) (by decide)) (zt_trk (Or.inl rfl) _ _ _)) cl4) zid rfl (Nat.le_of_ble_eq_true rfl) dX6_perform_10 ⟨(Nat.le_of_ble_eq_true rfl), (Nat.le_of_ble_eq_true rfl)⟩ (fun v9 u9 hv9 => ?_)
  obtain ⟨rfl, hF2001, hg2001⟩ := hv9
  refine zv_st (st' := []) rfl ?_
  refine zv_iconst (pc := 13) (v := 0) B rfl dX6_perform_13 ?_
  refine zv_istore_n (pc := 14) (L' := [(3, .int 0), (0, .ref (b + 0)), (1, .int (nI z)), (2, .int (nI y))]) B (by decide) rfl dX6_perform_14 ?_
  have loop1 : ∀ (K : Nat → (Nat → Nat → Int32) → (Nat → Int64) → Int32 × (Nat → Nat → Int32) × (Nat → Int64)) (n : Nat) (i : Nat) (c1 : Nat → Nat → Int32) (w1 : Nat → Int64), zfr 34 110 34 34 c c1 → zG c1 → i + n = z → g1_X6_perform c w ea z y n i c1 w1 K = m_X6_perform c w ea z y → (∀ (i : Nat) (c1 : Nat → Nat → Int32) (w1 : Nat → Int64), zfr 34 110 34 34 c c1 → zG c1 → i ≤ z → K i c1 w1 = m_X6_perform c w ea z y → zV p l e (zRm 6 0 0) s m args below meth c9 (MQ below (zQ b (fun v9 (_ : Unit) => v9 = some (.int (m_X6_perform c w ea z y).1) ∧ zfr 34 110 34 34 c (m_X6_perform c w ea z y).2.1 ∧ zG (m_X6_perform c w ea z y).2.1) (fun _ => zH E b ((m_X6_perform c w ea z y).2.1) ((m_X6_perform c w ea z y).2.2) en ea)) args s 0 0 (zA b)) 4 b (zH E b c1 w1 en ea) 39 [(0, .ref (b + 0)), (1, .int (nI z)), (3, .int (nI i))] [] 0 0) → zV p l e (zRm 6 0 0) s m args below meth c9 (MQ below (zQ b (fun v9 (_ : Unit) => v9 = some (.int (m_X6_perform c w ea z y).1) ∧ zfr 34 110 34 34 c (m_X6_perform c w ea z y).2.1 ∧ zG (m_X6_perform c w ea z y).2.1) (fun _ => zH E b ((m_X6_perform c w ea z y).2.1) ((m_X6_perform c w ea z y).2.2) en ea)) args s 0 0 (zA b)) 4 b (zH E b c1 w1 en ea) 15 [(0, .ref (b + 0)), (1, .int (nI z)), (3, .int (nI i))] [] 0 0 := by
    intro K n
    induction n with
    | zero =>
      intro i c1 w1 hF1 hg1 hi hE901 hK
      refine zv_iload_n (pc := 15) B 2 rfl dX6_perform_15 ?_
      refine zv_iload_n (pc := 16) B 1 rfl dX6_perform_16 ?_
      refine zv_icmp_ge (pc := 17) (tgt := 39) B dX6_perform_17 rfl (fun _ => ?_) (fun h9 => absurd ((z_le (a := z) (b := i) rfl rfl (by omega) (by omega)).mpr (by omega)) h9)
      exact hK i c1 w1 hF1 hg1 (by omega) (Eq.trans (by rw [g1_X6_perform]) hE901)
    | succ n ih =>
      intro i c1 w1 hF1 hg1 hi hE901 hK
      refine zv_iload_n (pc := 15) B 2 rfl dX6_perform_15 ?_
      refine zv_iload_n (pc := 16) B 1 rfl dX6_perform_16 ?_
      refine zv_icmp_ge (pc := 17) (tgt := 39) B dX6_perform_17 rfl (fun h9 => absurd h9 (fun q9 => absurd ((z_le (a := z) (b := i) rfl rfl (by omega) (by omega)).mp q9) (by omega))) (fun _ => ?_)
      refine zv_aload_n (pc := 20) B 0 rfl dX6_perform_20 ?_
      refine zv_get (pc := 21) (v := .ref (b + 106)) B (zat (by decide) (z0 _ _ _)) cl6 inX6 3 (by decide) wf_X6_31 rfl dX6_perform_21 ?_
      refine zv_aload_n (pc := 24) B 0 rfl dX6_perform_24 ?_
      refine zv_get (pc := 25) (v := .ref (b + 108)) B (zat (by decide) (z0 _ _ _)) cl6 inX6 4 (by decide) wf_X6_35 rfl dX6_perform_25 ?_
      refine zv_iload_n (pc := 28) B 2 rfl dX6_perform_28 ?_
      refine zv_iald (pc := 29) (jj := i) B (zat (by decide) (z108 _ _ _)) rfl (by omega) (by decide) dX6_perform_29 ?_
      refine zv_callV (pc := 30) (As := [.int (c1 108 i)]) (rest := []) B (k_X3_note l E b _ _ _ _  (c1 108 i) hg1) (zcwV 1 1 B wm_X6_262 wi_X3_note wv_X3_note wn_X3 wcode_X3_note rfl (by decide +kernel) ⟨(Nat.le_of_ble_eq_true rfl), (Nat.le_of_ble_eq_true rfl)⟩) rfl (zrecv B (zat (by decide) (z106 _ _ _)) cl3) zid rfl (Nat.le_of_ble_eq_true rfl) dX6_perform_30 ⟨(Nat.le_of_ble_eq_true rfl), (Nat.le_of_ble_eq_true rfl)⟩ (fun v9 u9 hv9 => ?_)
      obtain ⟨rfl, hF2004, hg2004⟩ := hv9
      refine zv_st (st' := []) rfl ?_
      refine zv_iinc (pc := 33) (v := nI (i + 1)) (L' := [(3, .int (nI (i + 1))), (0, .ref (b + 0)), (1, .int (nI z))]) B 2 rfl (nI_1 _) (by decide) rfl dX6_perform_33 ?_
      refine zv_goto (pc := 36) (tgt := 15) B rfl dX6_perform_36 ?_
      refine zv_loc (L' := [(0, .ref (b + 0)), (1, .int (nI z)), (3, .int (nI (i + 1)))]) [1, 2, 0] rfl ?_
      exact ih (i + 1) ((m_X3_note c1 w1 (c1 108 i)).1) ((m_X3_note c1 w1 (c1 108 i)).2) (zfr.call hF1 hF2004 (by omega)) hg2004 (by omega) (Eq.trans (by rw [g1_X6_perform]) hE901) hK
  refine zv_loc (L' := [(0, .ref (b + 0)), (1, .int (nI z)), (3, .int 0)]) [1, 2, 0] rfl ?_
  refine loop1 (fun i c1 w1 => (c1 108 (z - 1), c1, w1)) z 0 (m_X4_find c ea 34 z y 108) w (zfr.call zfr.refl hF2001 (by omega)) hg2001 (by omega) (by unfold m_X6_perform; rfl) ?_
  intro i c1 w1 hF1 hg1 hx
  intro (hE951 : (c1 108 (z - 1), c1, w1) = m_X6_perform c w ea z y)
  refine zv_aload_n (pc := 39) B 0 rfl dX6_perform_39 ?_
  refine zv_get (pc := 40) (v := .ref (b + 108)) B (zat (by decide) (z0 _ _ _)) cl6 inX6 4 (by decide) wf_X6_35 rfl dX6_perform_40 ?_
  refine zv_iload_n (pc := 43) B 1 rfl dX6_perform_43 ?_
  refine zv_iconst (pc := 44) (v := 1) B rfl dX6_perform_44 ?_
  refine zv_isub (pc := 45) B dX6_perform_45 ?_
  refine zv_topi (y := nI (z - 1)) (nI_pre h1z) ?_
  refine zv_iald (pc := 46) (jj := (z - 1)) B (zat (by decide) (z108 _ _ _)) rfl (by omega) (by decide) dX6_perform_46 ?_
  have hE5 : (c1 108 (z - 1), c1, w1) = m_X6_perform c w ea z y := hE951
  exact zv_iret (pc := 47) B (c1 108 (z - 1)) hr (fun H hP => ⟨(), ⟨(congrArg (fun z => some (Value.int z.1)) hE5), Eq.subst (motive := fun z => zfr 34 110 34 34 c z.2.1) hE5 hF1, Eq.subst (motive := fun z => zG z.2.1) hE5 hg1⟩, Eq.subst (motive := fun z => zH E b z.2.1 z.2.2 en ea H) hE5 hP⟩) (Nat.le_of_ble_eq_true rfl) (Nat.le_of_ble_eq_true rfl) dX6_perform_47

def m_X6_lookAhead (c : Nat → Nat → Int32) (en : Nat → Nat) (ea : Nat → Nat → Int32) (z y r : Nat) : (Nat → Nat → Int32) × (Nat → Nat) × (Nat → Nat → Int32) := ((m_X4_find ((m_X4_copyFrom c en ea).1) ((m_X4_copyFrom c en ea).2.2) 70 z y r), (m_X4_copyFrom c en ea).2.1, (m_X4_copyFrom c en ea).2.2)
set_option maxRecDepth 100000 in
set_option maxHeartbeats 4000000 in
theorem k_X6_lookAhead (l : Launch) (E : zE) (b : Nat) (c : Nat → Nat → Int32) (w : Nat → Int64) (en : Nat → Nat) (ea : Nat → Nat → Int32) {z : Nat} (hz : z ≤ 64) {y : Nat} (hy : y ≤ 64) {r : Nat} (hrw : r = 108 ∨ r = 109) (hg : zG c) : zM l yX6_lookAhead (.code yX6_lookAhead cX6_lookAhead 4 none :: zAll) (zRm 6 0 0) E b [.ref (b + 0), .int (nI z), .int (nI y), .ref (b + r)] (zH E b c w en ea) (fun v9 (_ : Unit) => v9 = none ∧ zfr 70 106 r (r + 1) c (m_X6_lookAhead c en ea z y r).1 ∧ zG (m_X6_lookAhead c en ea z y r).1) (fun _ => zH E b ((m_X6_lookAhead c en ea z y r).1) w ((m_X6_lookAhead c en ea z y r).2.1) ((m_X6_lookAhead c en ea z y r).2.2)) 0 0 := by
  refine zM_of "ToneGraph" (by decide) rfl rfl (Nat.le_of_ble_eq_true rfl) (L0 := [(0, .ref (b + 0)), (1, .int (nI z)), (2, .int (nI y)), (3, .ref (b + r))]) rfl ?_
  intro p e s m args below meth c9 B hr hname
  refine zv_aload_n (pc := 0) B 0 rfl dX6_lookAhead_0 ?_
  refine zv_get (pc := 1) (v := .ref (b + 70)) B (zat (by decide) (z0 _ _ _)) cl6 inX6 2 (by decide) wf_X6_25 rfl dX6_lookAhead_1 ?_
  refine zv_aload_n (pc := 4) B 0 rfl dX6_lookAhead_4 ?_
  refine zv_get (pc := 5) (v := .ref (b + 34)) B (zat (by decide) (z0 _ _ _)) cl6 inX6 1 (by decide) wf_X6_21 rfl dX6_lookAhead_5 ?_
  refine zv_callV (pc := 8) (As := [.ref (b + 34)]) (rest := []) B (k_X4_copyFrom l E b _ _ _ _  hg) (zcwV 1 3 B wm_X6_265 wi_X4_copyFrom wv_X4_copyFrom wn_X4 wcode_X4_copyFrom rfl (by decide +kernel) ⟨(Nat.le_of_ble_eq_true rfl), (Nat.le_of_ble_eq_true rfl)⟩) rfl (zrecv B (zat (zTk.lt (Or.inr rfl) (k := 0) (by decide)) (zt_trk (Or.inr rfl) _ _ _)) cl4) zid rfl (Nat.le_of_ble_eq_true rfl) dX6_lookAhead_8 ⟨(Nat.le_of_ble_eq_true rfl), (Nat.le_of_ble_eq_true rfl)⟩ (fun v9 u9 hv9 => ?_)
  obtain ⟨rfl, hF2001, hg2001⟩ := hv9
  refine zv_st (st' := []) rfl ?_
  refine zv_aload_n (pc := 11) B 0 rfl dX6_lookAhead_11 ?_
  refine zv_get (pc := 12) (v := .ref (b + 70)) B (zat (by decide) (z0 _ _ _)) cl6 inX6 2 (by decide) wf_X6_25 rfl dX6_lookAhead_12 ?_
  refine zv_iload_n (pc := 15) B 1 rfl dX6_lookAhead_15 ?_
  refine zv_iload_n (pc := 16) B 2 rfl dX6_lookAhead_16 ?_
  refine zv_aload_n (pc := 17) B 3 rfl dX6_lookAhead_17 ?_
  refine zv_callV (pc := 18) (As := [.int (nI z), .int (nI y), .ref (b + r)]) (rest := []) B (k_X4_find l E b _ _ _ _ (Or.inr rfl) (by omega) (by omega) hrw hg2001) (zcwV 3 4 B wm_X6_259 wi_X4_find wv_X4_find wn_X4 wcode_X4_find rfl (by decide +kernel) ⟨(Nat.le_of_ble_eq_true rfl), (Nat.le_of_ble_eq_true rfl)⟩) rfl (zrecv B (zat (zTk.lt (Or.inr rfl) (k := 0) (by decide)) (zt_trk (Or.inr rfl) _ _ _)) cl4) zid rfl (Nat.le_of_ble_eq_true rfl) dX6_lookAhead_18 ⟨(Nat.le_of_ble_eq_true rfl), (Nat.le_of_ble_eq_true rfl)⟩ (fun v9 u9 hv9 => ?_)
  obtain ⟨rfl, hF2002, hg2002⟩ := hv9
  refine zv_st (st' := []) rfl ?_
  have hE3 : ((m_X4_find ((m_X4_copyFrom c en ea).1) ((m_X4_copyFrom c en ea).2.2) 70 z y r), (m_X4_copyFrom c en ea).2.1, (m_X4_copyFrom c en ea).2.2) = m_X6_lookAhead c en ea z y r := (by unfold m_X6_lookAhead; rfl)
  exact zv_vret (pc := 21) B hr (fun H hP => ⟨(), ⟨rfl, Eq.subst (motive := fun z => zfr 70 106 r (r + 1) c z.1) hE3 (zfr.call (zfr.call zfr.refl hF2001 (by omega)) hF2002 (by have h7 := hrw; omega)), Eq.subst (motive := fun z => zG z.1) hE3 hg2002⟩, Eq.subst (motive := fun z => zH E b z.1 w z.2.1 z.2.2 H) hE3 hP⟩) (Nat.le_of_ble_eq_true rfl) (Nat.le_of_ble_eq_true rfl) dX6_lookAhead_21

def m_X6_play (c : Nat → Nat → Int32) (w : Nat → Int64) (ea : Nat → Nat → Int32) (x : Int32) : String ⊕ (Int32 × (Nat → Nat → Int32) × (Nat → Int64)) := xb (m_X6_refuseOutside x 1 64) (fun u1 => .inr ((m_X6_perform c w ea (zn x) 64).1, (m_X6_perform c w ea (zn x) 64).2.1, (m_X6_perform c w ea (zn x) 64).2.2))
set_option maxRecDepth 100000 in
set_option maxHeartbeats 4000000 in
theorem k_X6_play (l : Launch) (E : zE) (b : Nat) (c : Nat → Nat → Int32) (w : Nat → Int64) (en : Nat → Nat) (ea : Nat → Nat → Int32) (x : Int32) (hg : zG c) (hlf : l.stackTraces = false) : zX l yX6_play (.code yX6_play cX6_play 2 (some .int) :: zAll) (zRm 7 1 6) E b [.ref (b + 0), .int x] (zH E b c w en ea) (fun v9 (u9 : Int32 × (Nat → Nat → Int32) × (Nat → Int64)) => (m_X6_play c w ea x) = .inr u9 ∧ v9 = some (.int u9.1) ∧ zfr 34 110 34 34 c u9.2.1 ∧ zG u9.2.1) (fun (u9 : Int32 × (Nat → Nat → Int32) × (Nat → Int64)) => zH E b u9.2.1 u9.2.2 en ea) (fun X9 => (m_X6_play c w ea x) = .inl X9) 1 6 := by
  refine zX_of "ToneGraph" (by decide) rfl rfl (Nat.le_of_ble_eq_true rfl) (L0 := [(0, .ref (b + 0)), (1, .int x)]) rfl ?_
  intro p e s m args below meth c9 B hr htab
  refine zv_iload_n (pc := 0) B 1 rfl dX6_play_0 ?_
  refine zv_iconst (pc := 1) (v := 1) B rfl dX6_play_1 ?_
  refine zv_bipush (pc := 2) (v := 64) B rfl dX6_play_2 ?_
  have hX1 : (xb (m_X6_refuseOutside x 1 64) (fun u1 => .inr ((m_X6_perform c w ea (zn x) 64).1, (m_X6_perform c w ea (zn x) 64).2.1, (m_X6_perform c w ea (zn x) 64).2.2)) : String ⊕ (Int32 × (Nat → Nat → Int32) × (Nat → Int64))) = m_X6_play c w ea x := (by unfold m_X6_play; rfl)
  refine zv_callSX (pc := 4) (As := [.int x, .int 1, .int 64]) (rest := []) B (k_X6_refuseOutside l E b _ _ _ _  x 1 64 hlf) (zcwS 3 6 B wm_X6_55 ws_X6_refuseOutside wn_X6 wcode_X6_refuseOutside (by decide +kernel) ⟨(Nat.le_of_ble_eq_true rfl), (Nat.le_of_ble_eq_true rfl)⟩) rfl zid rfl (Nat.le_of_ble_eq_true rfl) dX6_play_4 ⟨(Nat.le_of_ble_eq_true rfl), (Nat.le_of_ble_eq_true rfl)⟩ (fun X9 hX9 => zx_out B htab (xb_inl hX1 hX9) zid (Nat.le_of_ble_eq_true rfl) (Nat.le_of_ble_eq_true rfl)) (fun v9 u1 hv9 => ?_)
  obtain ⟨hu1, rfl⟩ := hv9
  have hE3001 : (.inr ((m_X6_perform c w ea (zn x) 64).1, (m_X6_perform c w ea (zn x) 64).2.1, (m_X6_perform c w ea (zn x) 64).2.2) : String ⊕ (Int32 × (Nat → Nat → Int32) × (Nat → Int64))) = m_X6_play c w ea x := by have h9 := xb_inr hX1 hu1; exact h9
  refine zv_st (st' := []) rfl ?_
  have hrx := ro_rng hu1 (a := 1) (b' := 64) rfl rfl (by decide) (by decide)
  have hbx : zn x < 65 := by omega
  refine zv_aload_n (pc := 7) B 0 rfl dX6_play_7 ?_
  refine zv_iload_n (pc := 8) B 1 rfl dX6_play_8 ?_
  refine zv_bipush (pc := 9) (v := 64) B rfl dX6_play_9 ?_
  refine zv_st (st' := [.int (nI 64), .int (nI (zn x)), .ref (b + 0)]) (by rw [← zn_eq x]; rfl) ?_
  refine zv_callV (pc := 11) (As := [.int (nI (zn x)), .int (nI 64)]) (rest := []) B (k_X6_perform (y := 64) l E b _ _ _ _  (by omega) (by omega) (by decide) hg) (zcwV 2 6 B wm_X6_223 wi_X6_perform wv_X6_perform wn_X6 wcode_X6_perform rfl (by decide +kernel) ⟨(Nat.le_of_ble_eq_true rfl), (Nat.le_of_ble_eq_true rfl)⟩) rfl (zrecv B (zat (by decide) (z0 _ _ _)) cl6) zid rfl (Nat.le_of_ble_eq_true rfl) dX6_play_11 ⟨(Nat.le_of_ble_eq_true rfl), (Nat.le_of_ble_eq_true rfl)⟩ (fun v9 u9 hv9 => ?_)
  obtain ⟨rfl, hF2002, hg2002⟩ := hv9
  refine zv_st (st' := [.int ((m_X6_perform c w ea (zn x) 64).1)]) rfl ?_
  have hE3 : (.inr ((m_X6_perform c w ea (zn x) 64).1, (m_X6_perform c w ea (zn x) 64).2.1, (m_X6_perform c w ea (zn x) 64).2.2) : String ⊕ (Int32 × (Nat → Nat → Int32) × (Nat → Int64))) = m_X6_play c w ea x := hE3001
  exact zx_iret (pc := 14) B ((m_X6_perform c w ea (zn x) 64).1) hr (fun H hP => ⟨((m_X6_perform c w ea (zn x) 64).1, (m_X6_perform c w ea (zn x) 64).2.1, (m_X6_perform c w ea (zn x) 64).2.2), ⟨hE3.symm, rfl, (zfr.call zfr.refl hF2002 (by omega)), hg2002⟩, hP⟩) (Nat.le_of_ble_eq_true rfl) (Nat.le_of_ble_eq_true rfl) dX6_play_14

def m_X6_ahead (c : Nat → Nat → Int32) (en : Nat → Nat) (ea : Nat → Nat → Int32) (x : Int32) : String ⊕ (Int32 × (Nat → Nat → Int32) × (Nat → Nat) × (Nat → Nat → Int32)) := xb (m_X6_refuseOutside x 1 40) (fun u1 => .inr (((m_X6_lookAhead c en ea (zn x) 1 108).1) 108 (zn x - 1), (m_X6_lookAhead c en ea (zn x) 1 108).1, (m_X6_lookAhead c en ea (zn x) 1 108).2.1, (m_X6_lookAhead c en ea (zn x) 1 108).2.2))
set_option maxRecDepth 100000 in
set_option maxHeartbeats 4000000 in
theorem k_X6_ahead (l : Launch) (E : zE) (b : Nat) (c : Nat → Nat → Int32) (w : Nat → Int64) (en : Nat → Nat) (ea : Nat → Nat → Int32) (x : Int32) (hg : zG c) (hlf : l.stackTraces = false) : zX l yX6_ahead (.code yX6_ahead cX6_ahead 2 (some .int) :: zAll) (zRm 7 1 6) E b [.ref (b + 0), .int x] (zH E b c w en ea) (fun v9 (u9 : Int32 × (Nat → Nat → Int32) × (Nat → Nat) × (Nat → Nat → Int32)) => (m_X6_ahead c en ea x) = .inr u9 ∧ v9 = some (.int u9.1) ∧ zfr 70 106 108 109 c u9.2.1 ∧ zG u9.2.1) (fun (u9 : Int32 × (Nat → Nat → Int32) × (Nat → Nat) × (Nat → Nat → Int32)) => zH E b u9.2.1 w u9.2.2.1 u9.2.2.2) (fun X9 => (m_X6_ahead c en ea x) = .inl X9) 1 6 := by
  refine zX_of "ToneGraph" (by decide) rfl rfl (Nat.le_of_ble_eq_true rfl) (L0 := [(0, .ref (b + 0)), (1, .int x)]) rfl ?_
  intro p e s m args below meth c9 B hr htab
  refine zv_iload_n (pc := 0) B 1 rfl dX6_ahead_0 ?_
  refine zv_iconst (pc := 1) (v := 1) B rfl dX6_ahead_1 ?_
  refine zv_bipush (pc := 2) (v := 40) B rfl dX6_ahead_2 ?_
  have hX1 : (xb (m_X6_refuseOutside x 1 40) (fun u1 => .inr (((m_X6_lookAhead c en ea (zn x) 1 108).1) 108 (zn x - 1), (m_X6_lookAhead c en ea (zn x) 1 108).1, (m_X6_lookAhead c en ea (zn x) 1 108).2.1, (m_X6_lookAhead c en ea (zn x) 1 108).2.2)) : String ⊕ (Int32 × (Nat → Nat → Int32) × (Nat → Nat) × (Nat → Nat → Int32))) = m_X6_ahead c en ea x := (by unfold m_X6_ahead; rfl)
  refine zv_callSX (pc := 4) (As := [.int x, .int 1, .int 40]) (rest := []) B (k_X6_refuseOutside l E b _ _ _ _  x 1 40 hlf) (zcwS 3 6 B wm_X6_55 ws_X6_refuseOutside wn_X6 wcode_X6_refuseOutside (by decide +kernel) ⟨(Nat.le_of_ble_eq_true rfl), (Nat.le_of_ble_eq_true rfl)⟩) rfl zid rfl (Nat.le_of_ble_eq_true rfl) dX6_ahead_4 ⟨(Nat.le_of_ble_eq_true rfl), (Nat.le_of_ble_eq_true rfl)⟩ (fun X9 hX9 => zx_out B htab (xb_inl hX1 hX9) zid (Nat.le_of_ble_eq_true rfl) (Nat.le_of_ble_eq_true rfl)) (fun v9 u1 hv9 => ?_)
  obtain ⟨hu1, rfl⟩ := hv9
  have hE3001 : (.inr (((m_X6_lookAhead c en ea (zn x) 1 108).1) 108 (zn x - 1), (m_X6_lookAhead c en ea (zn x) 1 108).1, (m_X6_lookAhead c en ea (zn x) 1 108).2.1, (m_X6_lookAhead c en ea (zn x) 1 108).2.2) : String ⊕ (Int32 × (Nat → Nat → Int32) × (Nat → Nat) × (Nat → Nat → Int32))) = m_X6_ahead c en ea x := by have h9 := xb_inr hX1 hu1; exact h9
  refine zv_st (st' := []) rfl ?_
  have hrx := ro_rng hu1 (a := 1) (b' := 40) rfl rfl (by decide) (by decide)
  have hbx : zn x < 41 := by omega
  refine zv_aload_n (pc := 7) B 0 rfl dX6_ahead_7 ?_
  refine zv_iload_n (pc := 8) B 1 rfl dX6_ahead_8 ?_
  refine zv_iconst (pc := 9) (v := 1) B rfl dX6_ahead_9 ?_
  refine zv_aload_n (pc := 10) B 0 rfl dX6_ahead_10 ?_
  refine zv_get (pc := 11) (v := .ref (b + 108)) B (zat (by decide) (z0 _ _ _)) cl6 inX6 4 (by decide) wf_X6_35 rfl dX6_ahead_11 ?_
  refine zv_st (st' := [.ref (b + 108), .int (nI 1), .int (nI (zn x)), .ref (b + 0)]) (by rw [← zn_eq x]; rfl) ?_
  refine zv_callV (pc := 14) (As := [.int (nI (zn x)), .int (nI 1), .ref (b + 108)]) (rest := []) B (k_X6_lookAhead (y := 1) l E b _ _ _ _  (by omega) (by decide) (Or.inl rfl) hg) (zcwV 3 6 B wm_X6_226 wi_X6_lookAhead wv_X6_lookAhead wn_X6 wcode_X6_lookAhead rfl (by decide +kernel) ⟨(Nat.le_of_ble_eq_true rfl), (Nat.le_of_ble_eq_true rfl)⟩) rfl (zrecv B (zat (by decide) (z0 _ _ _)) cl6) zid rfl (Nat.le_of_ble_eq_true rfl) dX6_ahead_14 ⟨(Nat.le_of_ble_eq_true rfl), (Nat.le_of_ble_eq_true rfl)⟩ (fun v9 u9 hv9 => ?_)
  obtain ⟨rfl, hF2002, hg2002⟩ := hv9
  refine zv_st (st' := []) rfl ?_
  refine zv_aload_n (pc := 17) B 0 rfl dX6_ahead_17 ?_
  refine zv_get (pc := 18) (v := .ref (b + 108)) B (zat (by decide) (z0 _ _ _)) cl6 inX6 4 (by decide) wf_X6_35 rfl dX6_ahead_18 ?_
  refine zv_iload_n (pc := 21) B 1 rfl dX6_ahead_21 ?_
  refine zv_iconst (pc := 22) (v := 1) B rfl dX6_ahead_22 ?_
  refine zv_isub (pc := 23) B dX6_ahead_23 ?_
  refine zv_topi (y := nI (zn x - 1)) ((by rw [← nI_pre hrx.1, ← zn_eq])) ?_
  refine zv_iald (pc := 24) (jj := (zn x - 1)) B (zat (by decide) (z108 _ _ _)) rfl (by omega) (by decide) dX6_ahead_24 ?_
  have hE3 : (.inr (((m_X6_lookAhead c en ea (zn x) 1 108).1) 108 (zn x - 1), (m_X6_lookAhead c en ea (zn x) 1 108).1, (m_X6_lookAhead c en ea (zn x) 1 108).2.1, (m_X6_lookAhead c en ea (zn x) 1 108).2.2) : String ⊕ (Int32 × (Nat → Nat → Int32) × (Nat → Nat) × (Nat → Nat → Int32))) = m_X6_ahead c en ea x := hE3001
  exact zx_iret (pc := 25) B (((m_X6_lookAhead c en ea (zn x) 1 108).1) 108 (zn x - 1)) hr (fun H hP => ⟨(((m_X6_lookAhead c en ea (zn x) 1 108).1) 108 (zn x - 1), (m_X6_lookAhead c en ea (zn x) 1 108).1, (m_X6_lookAhead c en ea (zn x) 1 108).2.1, (m_X6_lookAhead c en ea (zn x) 1 108).2.2), ⟨hE3.symm, rfl, (zfr.call zfr.refl hF2002 (by omega)), hg2002⟩, hP⟩) (Nat.le_of_ble_eq_true rfl) (Nat.le_of_ble_eq_true rfl) dX6_ahead_25

def m_X6_aheadByBlocks (c : Nat → Nat → Int32) (en : Nat → Nat) (ea : Nat → Nat → Int32) (x y : Int32) : String ⊕ (Int32 × (Nat → Nat → Int32) × (Nat → Nat) × (Nat → Nat → Int32)) := xb (m_X6_refuseOutside x 1 40) (fun u1 => xb (m_X6_refuseOutside y 1 64) (fun u2 => .inr (((m_X6_lookAhead c en ea (zn x) (zn y) 109).1) 109 (zn x - 1), (m_X6_lookAhead c en ea (zn x) (zn y) 109).1, (m_X6_lookAhead c en ea (zn x) (zn y) 109).2.1, (m_X6_lookAhead c en ea (zn x) (zn y) 109).2.2)))
set_option maxRecDepth 100000 in
set_option maxHeartbeats 4000000 in
theorem k_X6_aheadByBlocks (l : Launch) (E : zE) (b : Nat) (c : Nat → Nat → Int32) (w : Nat → Int64) (en : Nat → Nat) (ea : Nat → Nat → Int32) (x y : Int32) (hg : zG c) (hlf : l.stackTraces = false) : zX l yX6_aheadByBlocks (.code yX6_aheadByBlocks cX6_aheadByBlocks 3 (some .int) :: zAll) (zRm 7 2 12) E b [.ref (b + 0), .int x, .int y] (zH E b c w en ea) (fun v9 (u9 : Int32 × (Nat → Nat → Int32) × (Nat → Nat) × (Nat → Nat → Int32)) => (m_X6_aheadByBlocks c en ea x y) = .inr u9 ∧ v9 = some (.int u9.1) ∧ zfr 70 106 109 110 c u9.2.1 ∧ zG u9.2.1) (fun (u9 : Int32 × (Nat → Nat → Int32) × (Nat → Nat) × (Nat → Nat → Int32)) => zH E b u9.2.1 w u9.2.2.1 u9.2.2.2) (fun X9 => (m_X6_aheadByBlocks c en ea x y) = .inl X9) 2 12 := by
  refine zX_of "ToneGraph" (by decide) rfl rfl (Nat.le_of_ble_eq_true rfl) (L0 := [(0, .ref (b + 0)), (1, .int x), (2, .int y)]) rfl ?_
  intro p e s m args below meth c9 B hr htab
  refine zv_iload_n (pc := 0) B 1 rfl dX6_aheadByBlocks_0 ?_
  refine zv_iconst (pc := 1) (v := 1) B rfl dX6_aheadByBlocks_1 ?_
  refine zv_bipush (pc := 2) (v := 40) B rfl dX6_aheadByBlocks_2 ?_
  have hX1 : (xb (m_X6_refuseOutside x 1 40) (fun u1 => xb (m_X6_refuseOutside y 1 64) (fun u2 => .inr (((m_X6_lookAhead c en ea (zn x) (zn y) 109).1) 109 (zn x - 1), (m_X6_lookAhead c en ea (zn x) (zn y) 109).1, (m_X6_lookAhead c en ea (zn x) (zn y) 109).2.1, (m_X6_lookAhead c en ea (zn x) (zn y) 109).2.2))) : String ⊕ (Int32 × (Nat → Nat → Int32) × (Nat → Nat) × (Nat → Nat → Int32))) = m_X6_aheadByBlocks c en ea x y := (by unfold m_X6_aheadByBlocks; rfl)
  refine zv_callSX (pc := 4) (As := [.int x, .int 1, .int 40]) (rest := []) B (k_X6_refuseOutside l E b _ _ _ _  x 1 40 hlf) (zcwS 3 6 B wm_X6_55 ws_X6_refuseOutside wn_X6 wcode_X6_refuseOutside (by decide +kernel) ⟨(Nat.le_of_ble_eq_true rfl), (Nat.le_of_ble_eq_true rfl)⟩) rfl zid rfl (Nat.le_of_ble_eq_true rfl) dX6_aheadByBlocks_4 ⟨(Nat.le_of_ble_eq_true rfl), (Nat.le_of_ble_eq_true rfl)⟩ (fun X9 hX9 => zx_out B htab (xb_inl hX1 hX9) zid (Nat.le_of_ble_eq_true rfl) (Nat.le_of_ble_eq_true rfl)) (fun v9 u1 hv9 => ?_)
  obtain ⟨hu1, rfl⟩ := hv9
  have hE3001 : (xb (m_X6_refuseOutside y 1 64) (fun u2 => .inr (((m_X6_lookAhead c en ea (zn x) (zn y) 109).1) 109 (zn x - 1), (m_X6_lookAhead c en ea (zn x) (zn y) 109).1, (m_X6_lookAhead c en ea (zn x) (zn y) 109).2.1, (m_X6_lookAhead c en ea (zn x) (zn y) 109).2.2)) : String ⊕ (Int32 × (Nat → Nat → Int32) × (Nat → Nat) × (Nat → Nat → Int32))) = m_X6_aheadByBlocks c en ea x y := by have h9 := xb_inr hX1 hu1; exact h9
  refine zv_st (st' := []) rfl ?_
  have hrx := ro_rng hu1 (a := 1) (b' := 40) rfl rfl (by decide) (by decide)
  have hbx : zn x < 41 := by omega
  refine zv_iload_n (pc := 7) B 2 rfl dX6_aheadByBlocks_7 ?_
  refine zv_iconst (pc := 8) (v := 1) B rfl dX6_aheadByBlocks_8 ?_
  refine zv_bipush (pc := 9) (v := 64) B rfl dX6_aheadByBlocks_9 ?_
  have hX2 : (xb (m_X6_refuseOutside y 1 64) (fun u2 => .inr (((m_X6_lookAhead c en ea (zn x) (zn y) 109).1) 109 (zn x - 1), (m_X6_lookAhead c en ea (zn x) (zn y) 109).1, (m_X6_lookAhead c en ea (zn x) (zn y) 109).2.1, (m_X6_lookAhead c en ea (zn x) (zn y) 109).2.2)) : String ⊕ (Int32 × (Nat → Nat → Int32) × (Nat → Nat) × (Nat → Nat → Int32))) = m_X6_aheadByBlocks c en ea x y := hE3001
  refine zv_callSX (pc := 11) (As := [.int y, .int 1, .int 64]) (rest := []) B (k_X6_refuseOutside l E b _ _ _ _  y 1 64 hlf) (zcwS 3 6 B wm_X6_55 ws_X6_refuseOutside wn_X6 wcode_X6_refuseOutside (by decide +kernel) ⟨(Nat.le_of_ble_eq_true rfl), (Nat.le_of_ble_eq_true rfl)⟩) rfl zid rfl (Nat.le_of_ble_eq_true rfl) dX6_aheadByBlocks_11 ⟨(Nat.le_of_ble_eq_true rfl), (Nat.le_of_ble_eq_true rfl)⟩ (fun X9 hX9 => zx_out B htab (xb_inl hX2 hX9) zid (Nat.le_of_ble_eq_true rfl) (Nat.le_of_ble_eq_true rfl)) (fun v9 u2 hv9 => ?_)
  obtain ⟨hu2, rfl⟩ := hv9
  have hE3002 : (.inr (((m_X6_lookAhead c en ea (zn x) (zn y) 109).1) 109 (zn x - 1), (m_X6_lookAhead c en ea (zn x) (zn y) 109).1, (m_X6_lookAhead c en ea (zn x) (zn y) 109).2.1, (m_X6_lookAhead c en ea (zn x) (zn y) 109).2.2) : String ⊕ (Int32 × (Nat → Nat → Int32) × (Nat → Nat) × (Nat → Nat → Int32))) = m_X6_aheadByBlocks c en ea x y := by have h9 := xb_inr hX2 hu2; exact h9
  refine zv_st (st' := []) rfl ?_
  have hry := ro_rng hu2 (a := 1) (b' := 64) rfl rfl (by decide) (by decide)
  have hby : zn y < 65 := by omega
  refine zv_aload_n (pc := 14) B 0 rfl dX6_aheadByBlocks_14 ?_
  refine zv_iload_n (pc := 15) B 1 rfl dX6_aheadByBlocks_15 ?_
  refine zv_iload_n (pc := 16) B 2 rfl dX6_aheadByBlocks_16 ?_
  refine zv_aload_n (pc := 17) B 0 rfl dX6_aheadByBlocks_17 ?_
  refine zv_get (pc := 18) (v := .ref (b + 109)) B (zat (by decide) (z0 _ _ _)) cl6 inX6 5 (by decide) wf_X6_39 rfl dX6_aheadByBlocks_18 ?_
  refine zv_st (st' := [.ref (b + 109), .int (nI (zn y)), .int (nI (zn x)), .ref (b + 0)]) (by rw [← zn_eq x, ← zn_eq y]) ?_
  refine zv_callV (pc := 21) (As := [.int (nI (zn x)), .int (nI (zn y)), .ref (b + 109)]) (rest := []) B (k_X6_lookAhead l E b _ _ _ _  (by omega) (by omega) (Or.inr rfl) hg) (zcwV 3 6 B wm_X6_226 wi_X6_lookAhead wv_X6_lookAhead wn_X6 wcode_X6_lookAhead rfl (by decide +kernel) ⟨(Nat.le_of_ble_eq_true rfl), (Nat.le_of_ble_eq_true rfl)⟩) rfl (zrecv B (zat (by decide) (z0 _ _ _)) cl6) zid rfl (Nat.le_of_ble_eq_true rfl) dX6_aheadByBlocks_21 ⟨(Nat.le_of_ble_eq_true rfl), (Nat.le_of_ble_eq_true rfl)⟩ (fun v9 u9 hv9 => ?_)
  obtain ⟨rfl, hF2003, hg2003⟩ := hv9
  refine zv_st (st' := []) rfl ?_
  refine zv_aload_n (pc := 24) B 0 rfl dX6_aheadByBlocks_24 ?_
  refine zv_get (pc := 25) (v := .ref (b + 109)) B (zat (by decide) (z0 _ _ _)) cl6 inX6 5 (by decide) wf_X6_39 rfl dX6_aheadByBlocks_25 ?_
  refine zv_iload_n (pc := 28) B 1 rfl dX6_aheadByBlocks_28 ?_
  refine zv_iconst (pc := 29) (v := 1) B rfl dX6_aheadByBlocks_29 ?_
  refine zv_isub (pc := 30) B dX6_aheadByBlocks_30 ?_
  refine zv_topi (y := nI (zn x - 1)) ((by rw [← nI_pre hrx.1, ← zn_eq])) ?_
  refine zv_iald (pc := 31) (jj := (zn x - 1)) B (zat (by decide) (z109 _ _ _)) rfl (by omega) (by decide) dX6_aheadByBlocks_31 ?_
  have hE4 : (.inr (((m_X6_lookAhead c en ea (zn x) (zn y) 109).1) 109 (zn x - 1), (m_X6_lookAhead c en ea (zn x) (zn y) 109).1, (m_X6_lookAhead c en ea (zn x) (zn y) 109).2.1, (m_X6_lookAhead c en ea (zn x) (zn y) 109).2.2) : String ⊕ (Int32 × (Nat → Nat → Int32) × (Nat → Nat) × (Nat → Nat → Int32))) = m_X6_aheadByBlocks c en ea x y := hE3002
  exact zx_iret (pc := 32) B (((m_X6_lookAhead c en ea (zn x) (zn y) 109).1) 109 (zn x - 1)) hr (fun H hP => ⟨(((m_X6_lookAhead c en ea (zn x) (zn y) 109).1) 109 (zn x - 1), (m_X6_lookAhead c en ea (zn x) (zn y) 109).1, (m_X6_lookAhead c en ea (zn x) (zn y) 109).2.1, (m_X6_lookAhead c en ea (zn x) (zn y) 109).2.2), ⟨hE4.symm, rfl, (zfr.call zfr.refl hF2003 (by omega)), hg2003⟩, hP⟩) (Nat.le_of_ble_eq_true rfl) (Nat.le_of_ble_eq_true rfl) dX6_aheadByBlocks_32

