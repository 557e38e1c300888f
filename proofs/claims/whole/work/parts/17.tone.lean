def m_X6_refuseOutside (x y z : Int32) : String ⊕ Unit := if x < y then (.inl "java/lang/IllegalArgumentException") else (if x ≤ z then (.inr ()) else (.inl "java/lang/IllegalArgumentException"))
set_option maxRecDepth 100000 in
set_option maxHeartbeats 4000000 in
theorem k_X6_refuseOutside (l : Launch) (E : zE) (b : Nat) (c : Nat → Nat → Int32) (w : Nat → Int64) (en : Nat → Nat) (ea : Nat → Nat → Int32) (x y z : Int32) (hlf : l.stackTraces = false) : zX l yX6_refuseOutside (.code yX6_refuseOutside cX6_refuseOutside 3 none :: zAll) (zRm 6 1 6) E b [.int x, .int y, .int z] (zH E b c w en ea) (fun v9 (u9 : Unit) => (m_X6_refuseOutside x y z) = .inr u9 ∧ v9 = none) (fun (u9 : Unit) => zH E b c w en ea) (fun X9 => (m_X6_refuseOutside x y z) = .inl X9) 1 6 := by
  refine zX_of "ToneGraph" (by decide) rfl rfl (Nat.le_of_ble_eq_true rfl) (L0 := [(0, .int x), (1, .int y), (2, .int z)]) rfl ?_
  intro p e s m args below meth c9 B hr htab
  refine zv_iload_n (pc := 0) B 0 rfl dX6_refuseOutside_0 ?_
  refine zv_iload_n (pc := 1) B 1 rfl dX6_refuseOutside_1 ?_
  refine zv_icmp_lt (pc := 2) (tgt := 10) B dX6_refuseOutside_2 rfl (fun h1 => ?_) (fun h1 => ?_)
  · have hE2 : (.inl "java/lang/IllegalArgumentException" : String ⊕ Unit) = m_X6_refuseOutside x y z := (by unfold m_X6_refuseOutside; rw [if_pos h1])
    exact zx_throwW (pc := 10) (j := 8) B hlf htab (by decide +kernel) (by decide +kernel) wc_X6_91 wn_IllegalArgumentException rfl zthr95 hE2.symm dX6_refuseOutside_10 dX6_refuseOutside_13 dX6_refuseOutside_14 dX6_refuseOutside_17 dX6_refuseOutside_20 (Nat.le_of_ble_eq_true rfl) (Nat.le_of_ble_eq_true rfl) (Nat.le_of_ble_eq_true rfl) (Nat.le_of_ble_eq_true rfl) (Nat.le_of_ble_eq_true rfl) (Nat.le_of_ble_eq_true rfl) (fun H H1 h hq => zH.kept H H1 h hq)
  · refine zv_iload_n (pc := 5) B 0 rfl dX6_refuseOutside_5 ?_
    refine zv_iload_n (pc := 6) B 2 rfl dX6_refuseOutside_6 ?_
    refine zv_icmp_le (pc := 7) (tgt := 21) B dX6_refuseOutside_7 rfl (fun h3 => ?_) (fun h3 => ?_)
    · have hE4 : (.inr () : String ⊕ Unit) = m_X6_refuseOutside x y z := (by unfold m_X6_refuseOutside; rw [if_neg h1, if_pos h3])
      exact zx_vret (pc := 21) B hr (fun H hP => ⟨(), ⟨hE4.symm, rfl⟩, hP⟩) (Nat.le_of_ble_eq_true rfl) (Nat.le_of_ble_eq_true rfl) dX6_refuseOutside_21
    · have hE5 : (.inl "java/lang/IllegalArgumentException" : String ⊕ Unit) = m_X6_refuseOutside x y z := (by unfold m_X6_refuseOutside; rw [if_neg h1, if_neg h3])
      exact zx_throwW (pc := 10) (j := 8) B hlf htab (by decide +kernel) (by decide +kernel) wc_X6_91 wn_IllegalArgumentException rfl zthr95 hE5.symm dX6_refuseOutside_10 dX6_refuseOutside_13 dX6_refuseOutside_14 dX6_refuseOutside_17 dX6_refuseOutside_20 (Nat.le_of_ble_eq_true rfl) (Nat.le_of_ble_eq_true rfl) (Nat.le_of_ble_eq_true rfl) (Nat.le_of_ble_eq_true rfl) (Nat.le_of_ble_eq_true rfl) (Nat.le_of_ble_eq_true rfl) (fun H H1 h hq => zH.kept H H1 h hq)

theorem ro_ok {x y z : Int32} {u : Unit} (h : m_X6_refuseOutside x y z = .inr u) : ¬ x < y ∧ ¬ z < x := by
  unfold m_X6_refuseOutside at h
  by_cases h1 : x < y
  · rw [if_pos h1] at h; cases h
  · rw [if_neg h1] at h
    refine ⟨h1, fun q => ?_⟩
    have h2 : ¬ x ≤ z := fun w => absurd (Int32.lt_of_lt_of_le q w) Int32.lt_irrefl
    rw [if_neg h2] at h; cases h
theorem ro_rng {x y z : Int32} {u : Unit} (h : m_X6_refuseOutside x y z = .inr u) {a b' : Nat} (hy : y = nI a) (hz : z = nI b') (hb : b' < 2 ^ 31) (ha : a < 2 ^ 31) : a ≤ zn x ∧ zn x ≤ b' := zn_rng hy hz hb ha (ro_ok h).1 (ro_ok h).2

def m_X6_refuseNoKey (x : Int32) : String ⊕ Unit := xb (m_X6_refuseOutside x 0 59) (fun u1 => .inr ())
set_option maxRecDepth 100000 in
set_option maxHeartbeats 4000000 in
theorem k_X6_refuseNoKey (l : Launch) (E : zE) (b : Nat) (c : Nat → Nat → Int32) (w : Nat → Int64) (en : Nat → Nat) (ea : Nat → Nat → Int32) (x : Int32) (hlf : l.stackTraces = false) : zX l yX6_refuseNoKey (.code yX6_refuseNoKey cX6_refuseNoKey 1 none :: zAll) (zRm 7 1 6) E b [.int x] (zH E b c w en ea) (fun v9 (u9 : Unit) => (m_X6_refuseNoKey x) = .inr u9 ∧ v9 = none) (fun (u9 : Unit) => zH E b c w en ea) (fun X9 => (m_X6_refuseNoKey x) = .inl X9) 1 6 := by
  refine zX_of "ToneGraph" (by decide) rfl rfl (Nat.le_of_ble_eq_true rfl) (L0 := [(0, .int x)]) rfl ?_
  intro p e s m args below meth c9 B hr htab
  refine zv_iload_n (pc := 0) B 0 rfl dX6_refuseNoKey_0 ?_
  refine zv_iconst (pc := 1) (v := 0) B rfl dX6_refuseNoKey_1 ?_
  refine zv_bipush (pc := 2) (v := 59) B rfl dX6_refuseNoKey_2 ?_
  have hX1 : (xb (m_X6_refuseOutside x 0 59) (fun u1 => .inr ()) : String ⊕ Unit) = m_X6_refuseNoKey x := (by unfold m_X6_refuseNoKey; rfl)
  refine zv_callSX (pc := 4) (As := [.int x, .int 0, .int 59]) (rest := []) B (k_X6_refuseOutside l E b _ _ _ _  x 0 59 hlf) (zcwS 3 6 B wm_X6_55 ws_X6_refuseOutside wn_X6 wcode_X6_refuseOutside (by decide +kernel) ⟨(Nat.le_of_ble_eq_true rfl), (Nat.le_of_ble_eq_true rfl)⟩) rfl zid rfl (Nat.le_of_ble_eq_true rfl) dX6_refuseNoKey_4 ⟨(Nat.le_of_ble_eq_true rfl), (Nat.le_of_ble_eq_true rfl)⟩ (fun X9 hX9 => zx_out B htab (xb_inl hX1 hX9) zid (Nat.le_of_ble_eq_true rfl) (Nat.le_of_ble_eq_true rfl)) (fun v9 u1 hv9 => ?_)
  obtain ⟨hu1, rfl⟩ := hv9
  have hE3001 : (.inr () : String ⊕ Unit) = m_X6_refuseNoKey x := by have h9 := xb_inr hX1 hu1; exact h9
  refine zv_st (st' := []) rfl ?_
  have hE2 : (.inr () : String ⊕ Unit) = m_X6_refuseNoKey x := hE3001
  exact zx_vret (pc := 7) B hr (fun H hP => ⟨(), ⟨hE2.symm, rfl⟩, hP⟩) (Nat.le_of_ble_eq_true rfl) (Nat.le_of_ble_eq_true rfl) dX6_refuseNoKey_7

theorem rk_ok {x : Int32} {u : Unit} (h : m_X6_refuseNoKey x = .inr u) : zn x < 60 := by
  unfold m_X6_refuseNoKey xb at h
  split at h
  · cases h
  · rename_i u9 h9
    have := (ro_rng h9 (a := 0) (b' := 59) rfl rfl (by decide) (by decide)).2
    omega

def m_X6_refuseNoVoice (x : Int32) : String ⊕ Unit := if x < 0 then (.inl "java/lang/IndexOutOfBoundsException") else (if x < 4 then (.inr ()) else (.inl "java/lang/IndexOutOfBoundsException"))
set_option maxRecDepth 100000 in
set_option maxHeartbeats 4000000 in
theorem k_X6_refuseNoVoice (l : Launch) (E : zE) (b : Nat) (c : Nat → Nat → Int32) (w : Nat → Int64) (en : Nat → Nat) (ea : Nat → Nat → Int32) (x : Int32) (hlf : l.stackTraces = false) : zX l yX6_refuseNoVoice (.code yX6_refuseNoVoice cX6_refuseNoVoice 1 none :: zAll) (zRm 6 1 6) E b [.int x] (zH E b c w en ea) (fun v9 (u9 : Unit) => (m_X6_refuseNoVoice x) = .inr u9 ∧ v9 = none) (fun (u9 : Unit) => zH E b c w en ea) (fun X9 => (m_X6_refuseNoVoice x) = .inl X9) 1 6 := by
  refine zX_of "ToneGraph" (by decide) rfl rfl (Nat.le_of_ble_eq_true rfl) (L0 := [(0, .int x)]) rfl ?_
  intro p e s m args below meth c9 B hr htab
  refine zv_iload_n (pc := 0) B 0 rfl dX6_refuseNoVoice_0 ?_
  refine zv_if_lt (pc := 1) (tgt := 9) B dX6_refuseNoVoice_1 rfl (fun h1 => ?_) (fun h1 => ?_)
  · have hE2 : (.inl "java/lang/IndexOutOfBoundsException" : String ⊕ Unit) = m_X6_refuseNoVoice x := (by unfold m_X6_refuseNoVoice; rw [if_pos h1])
    exact zx_throwW (pc := 9) (j := 9) B hlf htab (by decide +kernel) (by decide +kernel) wc_X6_271 wn_IndexOutOfBoundsException rfl zthr275 hE2.symm dX6_refuseNoVoice_9 dX6_refuseNoVoice_12 dX6_refuseNoVoice_13 dX6_refuseNoVoice_16 dX6_refuseNoVoice_19 (Nat.le_of_ble_eq_true rfl) (Nat.le_of_ble_eq_true rfl) (Nat.le_of_ble_eq_true rfl) (Nat.le_of_ble_eq_true rfl) (Nat.le_of_ble_eq_true rfl) (Nat.le_of_ble_eq_true rfl) (fun H H1 h hq => zH.kept H H1 h hq)
  · refine zv_iload_n (pc := 4) B 0 rfl dX6_refuseNoVoice_4 ?_
    refine zv_iconst (pc := 5) (v := 4) B rfl dX6_refuseNoVoice_5 ?_
    refine zv_icmp_lt (pc := 6) (tgt := 20) B dX6_refuseNoVoice_6 rfl (fun h3 => ?_) (fun h3 => ?_)
    · have hE4 : (.inr () : String ⊕ Unit) = m_X6_refuseNoVoice x := (by unfold m_X6_refuseNoVoice; rw [if_neg h1, if_pos h3])
      exact zx_vret (pc := 20) B hr (fun H hP => ⟨(), ⟨hE4.symm, rfl⟩, hP⟩) (Nat.le_of_ble_eq_true rfl) (Nat.le_of_ble_eq_true rfl) dX6_refuseNoVoice_20
    · have hE5 : (.inl "java/lang/IndexOutOfBoundsException" : String ⊕ Unit) = m_X6_refuseNoVoice x := (by unfold m_X6_refuseNoVoice; rw [if_neg h1, if_neg h3])
      exact zx_throwW (pc := 9) (j := 9) B hlf htab (by decide +kernel) (by decide +kernel) wc_X6_271 wn_IndexOutOfBoundsException rfl zthr275 hE5.symm dX6_refuseNoVoice_9 dX6_refuseNoVoice_12 dX6_refuseNoVoice_13 dX6_refuseNoVoice_16 dX6_refuseNoVoice_19 (Nat.le_of_ble_eq_true rfl) (Nat.le_of_ble_eq_true rfl) (Nat.le_of_ble_eq_true rfl) (Nat.le_of_ble_eq_true rfl) (Nat.le_of_ble_eq_true rfl) (Nat.le_of_ble_eq_true rfl) (fun H H1 h hq => zH.kept H H1 h hq)

theorem rv_ok {x : Int32} {u : Unit} (h : m_X6_refuseNoVoice x = .inr u) : zn x < 4 := by
  unfold m_X6_refuseNoVoice at h
  by_cases h1 : x < 0
  · rw [if_pos h1] at h; cases h
  · rw [if_neg h1] at h
    by_cases h2 : x < 4
    · have := (zn_rng (a := 0) (b' := 3) rfl rfl (by decide) (by decide) h1 (fun q => ?_)).2
      · omega
      · obtain ⟨j, hj, rfl⟩ := nI_of h1
        have a1 := (z_lt (b := 4) rfl rfl hj (by decide)).mp h2
        have a2 := (z_lt (a := 3) rfl rfl (by decide) hj).mp q
        omega
    · rw [if_neg h2] at h; cases h

def m_X6_refuseFullBoard (c : Nat → Nat → Int32) : String ⊕ Unit := if (c 1 0) < 10 then (.inr ()) else (.inl "java/lang/IllegalStateException")
set_option maxRecDepth 100000 in
set_option maxHeartbeats 4000000 in
theorem k_X6_refuseFullBoard (l : Launch) (E : zE) (b : Nat) (c : Nat → Nat → Int32) (w : Nat → Int64) (en : Nat → Nat) (ea : Nat → Nat → Int32)  (hg : zG c) (hlf : l.stackTraces = false) : zX l yX6_refuseFullBoard (.code yX6_refuseFullBoard cX6_refuseFullBoard 1 none :: zAll) (zRm 6 1 6) E b [.ref (b + 0)] (zH E b c w en ea) (fun v9 (u9 : Unit) => (m_X6_refuseFullBoard c) = .inr u9 ∧ v9 = none) (fun (u9 : Unit) => zH E b c w en ea) (fun X9 => (m_X6_refuseFullBoard c) = .inl X9) 1 6 := by
  refine zX_of "ToneGraph" (by decide) rfl rfl (Nat.le_of_ble_eq_true rfl) (L0 := [(0, .ref (b + 0))]) rfl ?_
  intro p e s m args below meth c9 B hr htab
  refine zv_aload_n (pc := 0) B 0 rfl dX6_refuseFullBoard_0 ?_
  refine zv_get (pc := 1) (v := .ref (b + 1)) B (zat (by decide) (z0 _ _ _)) cl6 inX6 0 (by decide) wf_X6_10 rfl dX6_refuseFullBoard_1 ?_
  refine zv_get (pc := 4) (v := .int (c 1 0)) B (zat (by decide) (z1 _ _ _)) cl0 inX0 0 (by decide) wf_X6_141 rfl dX6_refuseFullBoard_4 ?_
  refine zv_bipush (pc := 7) (v := 10) B rfl dX6_refuseFullBoard_7 ?_
  refine zv_icmp_lt (pc := 9) (tgt := 23) B dX6_refuseFullBoard_9 rfl (fun h1 => ?_) (fun h1 => ?_)
  · have hE2 : (.inr () : String ⊕ Unit) = m_X6_refuseFullBoard c := (by unfold m_X6_refuseFullBoard; rw [if_pos h1])
    exact zx_vret (pc := 23) B hr (fun H hP => ⟨(), ⟨hE2.symm, rfl⟩, hP⟩) (Nat.le_of_ble_eq_true rfl) (Nat.le_of_ble_eq_true rfl) dX6_refuseFullBoard_23
  · have hE3 : (.inl "java/lang/IllegalStateException" : String ⊕ Unit) = m_X6_refuseFullBoard c := (by unfold m_X6_refuseFullBoard; rw [if_neg h1])
    exact zx_throwW (pc := 12) (j := 10) B hlf htab (by decide +kernel) (by decide +kernel) wc_X6_105 wn_IllegalStateException rfl zthr109 hE3.symm dX6_refuseFullBoard_12 dX6_refuseFullBoard_15 dX6_refuseFullBoard_16 dX6_refuseFullBoard_19 dX6_refuseFullBoard_22 (Nat.le_of_ble_eq_true rfl) (Nat.le_of_ble_eq_true rfl) (Nat.le_of_ble_eq_true rfl) (Nat.le_of_ble_eq_true rfl) (Nat.le_of_ble_eq_true rfl) (Nat.le_of_ble_eq_true rfl) (fun H H1 h hq => zH.kept H H1 h hq)

theorem rb_ok {c : Nat → Nat → Int32} (hg : zG c) {u : Unit} (h : m_X6_refuseFullBoard c = .inr u) : zn (c 1 0) < 10 := by
  have hc : zn (c 1 0) ≤ 10 := hg 1 0
  unfold m_X6_refuseFullBoard at h
  by_cases h1 : c 1 0 < 10
  · exact (z_lt (b := 10) (zn_eq _) rfl (by omega) (by decide)).mp h1
  · rw [if_neg h1] at h; cases h

def m_X6_refuseNoNode (c : Nat → Nat → Int32) (x : Int32) : String ⊕ Unit := if x < 0 then (.inl "java/lang/IndexOutOfBoundsException") else (if x < (c 1 0) then (.inr ()) else (.inl "java/lang/IndexOutOfBoundsException"))
set_option maxRecDepth 100000 in
set_option maxHeartbeats 4000000 in
theorem k_X6_refuseNoNode (l : Launch) (E : zE) (b : Nat) (c : Nat → Nat → Int32) (w : Nat → Int64) (en : Nat → Nat) (ea : Nat → Nat → Int32) (x : Int32) (hg : zG c) (hlf : l.stackTraces = false) : zX l yX6_refuseNoNode (.code yX6_refuseNoNode cX6_refuseNoNode 2 none :: zAll) (zRm 6 1 6) E b [.ref (b + 0), .int x] (zH E b c w en ea) (fun v9 (u9 : Unit) => (m_X6_refuseNoNode c x) = .inr u9 ∧ v9 = none) (fun (u9 : Unit) => zH E b c w en ea) (fun X9 => (m_X6_refuseNoNode c x) = .inl X9) 1 6 := by
  refine zX_of "ToneGraph" (by decide) rfl rfl (Nat.le_of_ble_eq_true rfl) (L0 := [(0, .ref (b + 0)), (1, .int x)]) rfl ?_
  intro p e s m args below meth c9 B hr htab
  refine zv_iload_n (pc := 0) B 1 rfl dX6_refuseNoNode_0 ?_
  refine zv_if_lt (pc := 1) (tgt := 15) B dX6_refuseNoNode_1 rfl (fun h1 => ?_) (fun h1 => ?_)
  · have hE2 : (.inl "java/lang/IndexOutOfBoundsException" : String ⊕ Unit) = m_X6_refuseNoNode c x := (by unfold m_X6_refuseNoNode; rw [if_pos h1])
    exact zx_throwW (pc := 15) (j := 11) B hlf htab (by decide +kernel) (by decide +kernel) wc_X6_271 wn_IndexOutOfBoundsException rfl zthr275 hE2.symm dX6_refuseNoNode_15 dX6_refuseNoNode_18 dX6_refuseNoNode_19 dX6_refuseNoNode_22 dX6_refuseNoNode_25 (Nat.le_of_ble_eq_true rfl) (Nat.le_of_ble_eq_true rfl) (Nat.le_of_ble_eq_true rfl) (Nat.le_of_ble_eq_true rfl) (Nat.le_of_ble_eq_true rfl) (Nat.le_of_ble_eq_true rfl) (fun H H1 h hq => zH.kept H H1 h hq)
  · refine zv_iload_n (pc := 4) B 1 rfl dX6_refuseNoNode_4 ?_
    refine zv_aload_n (pc := 5) B 0 rfl dX6_refuseNoNode_5 ?_
    refine zv_get (pc := 6) (v := .ref (b + 1)) B (zat (by decide) (z0 _ _ _)) cl6 inX6 0 (by decide) wf_X6_10 rfl dX6_refuseNoNode_6 ?_
    refine zv_get (pc := 9) (v := .int (c 1 0)) B (zat (by decide) (z1 _ _ _)) cl0 inX0 0 (by decide) wf_X6_141 rfl dX6_refuseNoNode_9 ?_
    refine zv_icmp_lt (pc := 12) (tgt := 26) B dX6_refuseNoNode_12 rfl (fun h3 => ?_) (fun h3 => ?_)
    · have hE4 : (.inr () : String ⊕ Unit) = m_X6_refuseNoNode c x := (by unfold m_X6_refuseNoNode; rw [if_neg h1, if_pos h3])
      exact zx_vret (pc := 26) B hr (fun H hP => ⟨(), ⟨hE4.symm, rfl⟩, hP⟩) (Nat.le_of_ble_eq_true rfl) (Nat.le_of_ble_eq_true rfl) dX6_refuseNoNode_26
    · have hE5 : (.inl "java/lang/IndexOutOfBoundsException" : String ⊕ Unit) = m_X6_refuseNoNode c x := (by unfold m_X6_refuseNoNode; rw [if_neg h1, if_neg h3])
      exact zx_throwW (pc := 15) (j := 11) B hlf htab (by decide +kernel) (by decide +kernel) wc_X6_271 wn_IndexOutOfBoundsException rfl zthr275 hE5.symm dX6_refuseNoNode_15 dX6_refuseNoNode_18 dX6_refuseNoNode_19 dX6_refuseNoNode_22 dX6_refuseNoNode_25 (Nat.le_of_ble_eq_true rfl) (Nat.le_of_ble_eq_true rfl) (Nat.le_of_ble_eq_true rfl) (Nat.le_of_ble_eq_true rfl) (Nat.le_of_ble_eq_true rfl) (Nat.le_of_ble_eq_true rfl) (fun H H1 h hq => zH.kept H H1 h hq)

theorem rn_ok {c : Nat → Nat → Int32} (hg : zG c) {x : Int32} {u : Unit} (h : m_X6_refuseNoNode c x = .inr u) : zn x < zn (c 1 0) := by
  have hc : zn (c 1 0) ≤ 10 := hg 1 0
  unfold m_X6_refuseNoNode at h
  by_cases h1 : x < 0
  · rw [if_pos h1] at h; cases h
  · rw [if_neg h1] at h
    by_cases h2 : x < c 1 0
    · obtain ⟨j, hj, rfl⟩ := nI_of h1
      rw [zn_nI (by omega)]
      exact (z_lt rfl (zn_eq _) hj (by omega)).mp h2
    · rw [if_neg h2] at h; cases h

def m_X6_refuseNoWire (c : Nat → Nat → Int32) (t : Nat) (x : Int32) : String ⊕ Unit := if x < 0 then (.inl "java/util/NoSuchElementException") else (if x < (c 10 t) then (.inr ()) else (.inl "java/util/NoSuchElementException"))
set_option maxRecDepth 100000 in
set_option maxHeartbeats 4000000 in
theorem k_X6_refuseNoWire (l : Launch) (E : zE) (b : Nat) (c : Nat → Nat → Int32) (w : Nat → Int64) (en : Nat → Nat) (ea : Nat → Nat → Int32) {t : Nat} (ht : t < 10) (x : Int32) (hg : zG c) (hlf : l.stackTraces = false) : zX l yX6_refuseNoWire (.code yX6_refuseNoWire cX6_refuseNoWire 3 none :: zAll) (zRm 6 1 6) E b [.ref (b + 0), .int (nI t), .int x] (zH E b c w en ea) (fun v9 (u9 : Unit) => (m_X6_refuseNoWire c t x) = .inr u9 ∧ v9 = none) (fun (u9 : Unit) => zH E b c w en ea) (fun X9 => (m_X6_refuseNoWire c t x) = .inl X9) 1 6 := by
  refine zX_of "ToneGraph" (by decide) rfl rfl (Nat.le_of_ble_eq_true rfl) (L0 := [(0, .ref (b + 0)), (1, .int (nI t)), (2, .int x)]) rfl ?_
  intro p e s m args below meth c9 B hr htab
  refine zv_iload_n (pc := 0) B 2 rfl dX6_refuseNoWire_0 ?_
  refine zv_if_lt (pc := 1) (tgt := 17) B dX6_refuseNoWire_1 rfl (fun h1 => ?_) (fun h1 => ?_)
  · have hE2 : (.inl "java/util/NoSuchElementException" : String ⊕ Unit) = m_X6_refuseNoWire c t x := (by unfold m_X6_refuseNoWire; rw [if_pos h1])
    exact zx_throwN (pc := 17) (j := 3) B hlf htab rfl hE2.symm dX6_refuseNoWire_17 dX6_refuseNoWire_20 dX6_refuseNoWire_21 dX6_refuseNoWire_23 dX6_refuseNoWire_26 (Nat.le_of_ble_eq_true rfl) (Nat.le_of_ble_eq_true rfl) (Nat.le_of_ble_eq_true rfl) (Nat.le_of_ble_eq_true rfl) (Nat.le_of_ble_eq_true rfl) (Nat.le_of_ble_eq_true rfl) (fun H H1 h hq => zH.kept H H1 h hq)
  · refine zv_iload_n (pc := 4) B 2 rfl dX6_refuseNoWire_4 ?_
    refine zv_aload_n (pc := 5) B 0 rfl dX6_refuseNoWire_5 ?_
    refine zv_get (pc := 6) (v := .ref (b + 1)) B (zat (by decide) (z0 _ _ _)) cl6 inX6 0 (by decide) wf_X6_10 rfl dX6_refuseNoWire_6 ?_
    refine zv_get (pc := 9) (v := .ref (b + 10)) B (zat (by decide) (z1 _ _ _)) cl0 inX0 10 (by decide) wf_X6_102 rfl dX6_refuseNoWire_9 ?_
    refine zv_iload_n (pc := 12) B 1 rfl dX6_refuseNoWire_12 ?_
    refine zv_iald (pc := 13) (jj := t) B (zat (by decide) (z10 _ _ _)) rfl ht (by decide) dX6_refuseNoWire_13 ?_
    refine zv_icmp_lt (pc := 14) (tgt := 27) B dX6_refuseNoWire_14 rfl (fun h3 => ?_) (fun h3 => ?_)
    · have hE4 : (.inr () : String ⊕ Unit) = m_X6_refuseNoWire c t x := (by unfold m_X6_refuseNoWire; rw [if_neg h1, if_pos h3])
      exact zx_vret (pc := 27) B hr (fun H hP => ⟨(), ⟨hE4.symm, rfl⟩, hP⟩) (Nat.le_of_ble_eq_true rfl) (Nat.le_of_ble_eq_true rfl) dX6_refuseNoWire_27
    · have hE5 : (.inl "java/util/NoSuchElementException" : String ⊕ Unit) = m_X6_refuseNoWire c t x := (by unfold m_X6_refuseNoWire; rw [if_neg h1, if_neg h3])
      exact zx_throwN (pc := 17) (j := 3) B hlf htab rfl hE5.symm dX6_refuseNoWire_17 dX6_refuseNoWire_20 dX6_refuseNoWire_21 dX6_refuseNoWire_23 dX6_refuseNoWire_26 (Nat.le_of_ble_eq_true rfl) (Nat.le_of_ble_eq_true rfl) (Nat.le_of_ble_eq_true rfl) (Nat.le_of_ble_eq_true rfl) (Nat.le_of_ble_eq_true rfl) (Nat.le_of_ble_eq_true rfl) (fun H H1 h hq => zH.kept H H1 h hq)

theorem rw_ok {c : Nat → Nat → Int32} (hg : zG c) {t : Nat} {x : Int32} {u : Unit} (h : m_X6_refuseNoWire c t x = .inr u) : zn x < zn (c 10 t) := by
  have hc : zn (c 10 t) ≤ 4 := hg 10 t
  unfold m_X6_refuseNoWire at h
  by_cases h1 : x < 0
  · rw [if_pos h1] at h; cases h
  · rw [if_neg h1] at h
    by_cases h2 : x < c 10 t
    · obtain ⟨j, hj, rfl⟩ := nI_of h1
      rw [zn_nI (by omega)]
      exact (z_lt rfl (zn_eq _) hj (by omega)).mp h2
    · rw [if_neg h2] at h; cases h

def m_X6_refuseFree (c : Nat → Nat → Int32) (v : Nat) : String ⊕ Unit := if (c (34 + 3 + 2 * v) 0) = 0 then (.inl "java/lang/IllegalStateException") else (.inr ())
set_option maxRecDepth 100000 in
set_option maxHeartbeats 4000000 in
theorem k_X6_refuseFree (l : Launch) (E : zE) (b : Nat) (c : Nat → Nat → Int32) (w : Nat → Int64) (en : Nat → Nat) (ea : Nat → Nat → Int32) {v : Nat} (hv : v < 4) (hlf : l.stackTraces = false) : zX l yX6_refuseFree (.code yX6_refuseFree cX6_refuseFree 2 none :: zAll) (zRm 6 1 6) E b [.ref (b + 0), .int (nI v)] (zH E b c w en ea) (fun v9 (u9 : Unit) => (m_X6_refuseFree c v) = .inr u9 ∧ v9 = none) (fun (u9 : Unit) => zH E b c w en ea) (fun X9 => (m_X6_refuseFree c v) = .inl X9) 1 6 := by
  refine zX_of "ToneGraph" (by decide) rfl rfl (Nat.le_of_ble_eq_true rfl) (L0 := [(0, .ref (b + 0)), (1, .int (nI v))]) rfl ?_
  intro p e s m args below meth c9 B hr htab
  refine zv_aload_n (pc := 0) B 0 rfl dX6_refuseFree_0 ?_
  refine zv_get (pc := 1) (v := .ref (b + 34)) B (zat (by decide) (z0 _ _ _)) cl6 inX6 1 (by decide) wf_X6_21 rfl dX6_refuseFree_1 ?_
  refine zv_get (pc := 4) (v := .ref (b + (34 + 1))) B (zat (zTk.lt (Or.inl rfl) (k := 0) (by decide)) (zt_trk (Or.inl rfl) _ _ _)) cl4 inX4 1 (by decide) wf_X6_170 rfl dX6_refuseFree_4 ?_
  refine zv_get (pc := 7) (v := .ref (b + (34 + 2))) B (zat (zTk.lt (Or.inl rfl) (by decide)) (zt_chr (Or.inl rfl) _ _ _)) cl1 inX1 0 (by decide) wf_X6_198 rfl dX6_refuseFree_7 ?_
  refine zv_iload_n (pc := 10) B 1 rfl dX6_refuseFree_10 ?_
  refine zv_vald (pc := 11) (jj := v) (q1 := b + (34 + 3 + 2 * v)) B (zat (zTk.lt (Or.inl rfl) (by decide)) (zt_vcs (Or.inl rfl) _ _ _)) rfl hv (by decide) (if_pos hv) dX6_refuseFree_11 ?_
  refine zv_get (pc := 12) (v := .int (c (34 + 3 + 2 * v) 0)) B (zat (by have h9 : v < 4 := hv; have := zTk.lt (Or.inl rfl) (k := 3 + 2 * v) (by omega); omega) (zt_vc (Or.inl rfl) hv _ _ _)) cl5 inX5 0 (by decide) wf_X6_280 rfl dX6_refuseFree_12 ?_
  refine zv_if_ne (pc := 15) (tgt := 29) B dX6_refuseFree_15 rfl (fun h1 => ?_) (fun h1 => ?_)
  · have hE2 : (.inr () : String ⊕ Unit) = m_X6_refuseFree c v := (by unfold m_X6_refuseFree; rw [if_neg h1])
    exact zx_vret (pc := 29) B hr (fun H hP => ⟨(), ⟨hE2.symm, rfl⟩, hP⟩) (Nat.le_of_ble_eq_true rfl) (Nat.le_of_ble_eq_true rfl) dX6_refuseFree_29
  · have hE3 : (.inl "java/lang/IllegalStateException" : String ⊕ Unit) = m_X6_refuseFree c v := (by unfold m_X6_refuseFree; rw [if_pos h1])
    exact zx_throwW (pc := 18) (j := 12) B hlf htab (by decide +kernel) (by decide +kernel) wc_X6_105 wn_IllegalStateException rfl zthr109 hE3.symm dX6_refuseFree_18 dX6_refuseFree_21 dX6_refuseFree_22 dX6_refuseFree_25 dX6_refuseFree_28 (Nat.le_of_ble_eq_true rfl) (Nat.le_of_ble_eq_true rfl) (Nat.le_of_ble_eq_true rfl) (Nat.le_of_ble_eq_true rfl) (Nat.le_of_ble_eq_true rfl) (Nat.le_of_ble_eq_true rfl) (fun H H1 h hq => zH.kept H H1 h hq)

def m_X6_refuseSilence (c : Nat → Nat → Int32) : String ⊕ Unit := if (c 106 1) = 0 then (.inl "java/lang/ArithmeticException") else (.inr ())
set_option maxRecDepth 100000 in
set_option maxHeartbeats 4000000 in
theorem k_X6_refuseSilence (l : Launch) (E : zE) (b : Nat) (c : Nat → Nat → Int32) (w : Nat → Int64) (en : Nat → Nat) (ea : Nat → Nat → Int32)  (hlf : l.stackTraces = false) : zX l yX6_refuseSilence (.code yX6_refuseSilence cX6_refuseSilence 1 none :: zAll) (zRm 6 1 6) E b [.ref (b + 0)] (zH E b c w en ea) (fun v9 (u9 : Unit) => (m_X6_refuseSilence c) = .inr u9 ∧ v9 = none) (fun (u9 : Unit) => zH E b c w en ea) (fun X9 => (m_X6_refuseSilence c) = .inl X9) 1 6 := by
  refine zX_of "ToneGraph" (by decide) rfl rfl (Nat.le_of_ble_eq_true rfl) (L0 := [(0, .ref (b + 0))]) rfl ?_
  intro p e s m args below meth c9 B hr htab
  refine zv_aload_n (pc := 0) B 0 rfl dX6_refuseSilence_0 ?_
  refine zv_get (pc := 1) (v := .ref (b + 106)) B (zat (by decide) (z0 _ _ _)) cl6 inX6 3 (by decide) wf_X6_31 rfl dX6_refuseSilence_1 ?_
  refine zv_get (pc := 4) (v := .int (c 106 1)) B (zat (by decide) (z106 _ _ _)) cl3 inX3 1 (by decide) wf_X6_230 rfl dX6_refuseSilence_4 ?_
  refine zv_if_ne (pc := 7) (tgt := 21) B dX6_refuseSilence_7 rfl (fun h1 => ?_) (fun h1 => ?_)
  · have hE2 : (.inr () : String ⊕ Unit) = m_X6_refuseSilence c := (by unfold m_X6_refuseSilence; rw [if_neg h1])
    exact zx_vret (pc := 21) B hr (fun H hP => ⟨(), ⟨hE2.symm, rfl⟩, hP⟩) (Nat.le_of_ble_eq_true rfl) (Nat.le_of_ble_eq_true rfl) dX6_refuseSilence_21
  · have hE3 : (.inl "java/lang/ArithmeticException" : String ⊕ Unit) = m_X6_refuseSilence c := (by unfold m_X6_refuseSilence; rw [if_pos h1])
    exact zx_throwW (pc := 10) (j := 13) B hlf htab (by decide +kernel) (by decide +kernel) wc_X6_286 wn_ArithmeticException rfl zthr290 hE3.symm dX6_refuseSilence_10 dX6_refuseSilence_13 dX6_refuseSilence_14 dX6_refuseSilence_17 dX6_refuseSilence_20 (Nat.le_of_ble_eq_true rfl) (Nat.le_of_ble_eq_true rfl) (Nat.le_of_ble_eq_true rfl) (Nat.le_of_ble_eq_true rfl) (Nat.le_of_ble_eq_true rfl) (Nat.le_of_ble_eq_true rfl) (fun H H1 h hq => zH.kept H H1 h hq)

def m_X6_addGain (c : Nat → Nat → Int32) (x : Int32) : String ⊕ (Int32 × (Nat → Nat → Int32)) := xb (m_X6_refuseOutside x (-200) 200) (fun u1 => xb (m_X6_refuseFullBoard c) (fun u2 => .inr (c 1 0, zup ((m_X0_add c 103).2) 3 (zn (c 1 0)) x)))
set_option maxRecDepth 100000 in
set_option maxHeartbeats 4000000 in
theorem k_X6_addGain (l : Launch) (E : zE) (b : Nat) (c : Nat → Nat → Int32) (w : Nat → Int64) (en : Nat → Nat) (ea : Nat → Nat → Int32) (x : Int32) (hg : zG c) (hlf : l.stackTraces = false) : zX l yX6_addGain (.code yX6_addGain cX6_addGain 3 (some .int) :: zAll) (zRm 7 2 12) E b [.ref (b + 0), .int x] (zH E b c w en ea) (fun v9 (u9 : Int32 × (Nat → Nat → Int32)) => (m_X6_addGain c x) = .inr u9 ∧ v9 = some (.int u9.1) ∧ zfr 1 34 1 1 c u9.2 ∧ zG u9.2) (fun (u9 : Int32 × (Nat → Nat → Int32)) => zH E b u9.2 w en ea) (fun X9 => (m_X6_addGain c x) = .inl X9) 2 12 := by
  refine zX_of "ToneGraph" (by decide) rfl rfl (Nat.le_of_ble_eq_true rfl) (L0 := [(0, .ref (b + 0)), (1, .int x)]) rfl ?_
  intro p e s m args below meth c9 B hr htab
  refine zv_iload_n (pc := 0) B 1 rfl dX6_addGain_0 ?_
  refine zv_sipush (pc := 1) (v := (-200)) B rfl dX6_addGain_1 ?_
  refine zv_sipush (pc := 4) (v := 200) B rfl dX6_addGain_4 ?_
  have hX1 : (xb (m_X6_refuseOutside x (-200) 200) (fun u1 => xb (m_X6_refuseFullBoard c) (fun u2 => .inr (c 1 0, zup ((m_X0_add c 103).2) 3 (zn (c 1 0)) x))) : String ⊕ (Int32 × (Nat → Nat → Int32))) = m_X6_addGain c x := (by unfold m_X6_addGain; rfl)
  refine zv_callSX (pc := 7) (As := [.int x, .int (-200), .int 200]) (rest := []) B (k_X6_refuseOutside l E b _ _ _ _  x (-200) 200 hlf) (zcwS 3 6 B wm_X6_55 ws_X6_refuseOutside wn_X6 wcode_X6_refuseOutside (by decide +kernel) ⟨(Nat.le_of_ble_eq_true rfl), (Nat.le_of_ble_eq_true rfl)⟩) rfl zid rfl (Nat.le_of_ble_eq_true rfl) dX6_addGain_7 ⟨(Nat.le_of_ble_eq_true rfl), (Nat.le_of_ble_eq_true rfl)⟩ (fun X9 hX9 => zx_out B htab (xb_inl hX1 hX9) zid (Nat.le_of_ble_eq_true rfl) (Nat.le_of_ble_eq_true rfl)) (fun v9 u1 hv9 => ?_)
  obtain ⟨hu1, rfl⟩ := hv9
  have hE3001 : (xb (m_X6_refuseFullBoard c) (fun u2 => .inr (c 1 0, zup ((m_X0_add c 103).2) 3 (zn (c 1 0)) x)) : String ⊕ (Int32 × (Nat → Nat → Int32))) = m_X6_addGain c x := by have h9 := xb_inr hX1 hu1; exact h9
  refine zv_st (st' := []) rfl ?_
  refine zv_aload_n (pc := 10) B 0 rfl dX6_addGain_10 ?_
  have hX2 : (xb (m_X6_refuseFullBoard c) (fun u2 => .inr (c 1 0, zup ((m_X0_add c 103).2) 3 (zn (c 1 0)) x)) : String ⊕ (Int32 × (Nat → Nat → Int32))) = m_X6_addGain c x := hE3001
  refine zv_callVX (pc := 11) (As := []) (rest := []) B (k_X6_refuseFullBoard l E b _ _ _ _  hg hlf) (zcwV 0 6 B wm_X6_59 wi_X6_refuseFullBoard wv_X6_refuseFullBoard wn_X6 wcode_X6_refuseFullBoard rfl (by decide +kernel) ⟨(Nat.le_of_ble_eq_true rfl), (Nat.le_of_ble_eq_true rfl)⟩) rfl (zrecv B (zat (by decide) (z0 _ _ _)) cl6) zid rfl (Nat.le_of_ble_eq_true rfl) dX6_addGain_11 ⟨(Nat.le_of_ble_eq_true rfl), (Nat.le_of_ble_eq_true rfl)⟩ (fun X9 hX9 => zx_out B htab (xb_inl hX2 hX9) zid (Nat.le_of_ble_eq_true rfl) (Nat.le_of_ble_eq_true rfl)) (fun v9 u2 hv9 => ?_)
  obtain ⟨hu2, rfl⟩ := hv9
  have hE3002 : (.inr (c 1 0, zup ((m_X0_add c 103).2) 3 (zn (c 1 0)) x) : String ⊕ (Int32 × (Nat → Nat → Int32))) = m_X6_addGain c x := by have h9 := xb_inr hX2 hu2; exact h9
  refine zv_st (st' := []) rfl ?_
  have hroom := rb_ok hg hu2
  refine zv_aload_n (pc := 14) B 0 rfl dX6_addGain_14 ?_
  refine zv_get (pc := 15) (v := .ref (b + 1)) B (zat (by decide) (z0 _ _ _)) cl6 inX6 0 (by decide) wf_X6_10 rfl dX6_addGain_15 ?_
  refine zv_bipush (pc := 18) (v := 103) B rfl dX6_addGain_18 ?_
  refine zv_callV (pc := 20) (As := [.int 103]) (rest := []) B (k_X0_add l E b _ _ _ _  103 (show zn _ ≤ 65535 by decide) hroom hg) (zcwV 1 4 B wm_X6_62 wi_X0_add wv_X0_add wn_X0 wcode_X0_add rfl (by decide +kernel) ⟨(Nat.le_of_ble_eq_true rfl), (Nat.le_of_ble_eq_true rfl)⟩) rfl (zrecv B (zat (by decide) (z1 _ _ _)) cl0) zid rfl (Nat.le_of_ble_eq_true rfl) dX6_addGain_20 ⟨(Nat.le_of_ble_eq_true rfl), (Nat.le_of_ble_eq_true rfl)⟩ (fun v9 u9 hv9 => ?_)
  obtain ⟨rfl, hF2003, hg2003⟩ := hv9
  refine zv_st (st' := [.int ((m_X0_add c 103).1)]) rfl ?_
  refine zv_topi (y := c 1 0) rfl ?_
  refine zv_istore_n (pc := 23) (L' := [(2, .int (c 1 0)), (0, .ref (b + 0)), (1, .int x)]) B (by decide) rfl dX6_addGain_23 ?_
  refine zv_aload_n (pc := 24) B 1 rfl dX6_addGain_24 ?_
  refine zv_get (pc := 25) (v := .ref (b + 1)) B (zat (by decide) (z0 _ _ _)) cl6 inX6 0 (by decide) wf_X6_10 rfl dX6_addGain_25 ?_
  refine zv_get (pc := 28) (v := .ref (b + 3)) B (zat (by decide) (z1 _ _ _)) cl0 inX0 3 (by decide) wf_X6_66 rfl dX6_addGain_28 ?_
  refine zv_iload_n (pc := 31) B 0 rfl dX6_addGain_31 ?_
  refine zv_iload_n (pc := 32) B 2 rfl dX6_addGain_32 ?_
  refine zs_iast (pc := 33) (jj := (zn (c 1 0))) B zid (by decide) rfl (fun x w e => z3 x w e) (zn_eq (c 1 0)) hroom (by decide) dX6_addGain_33 ?_
  refine zv_iload_n (pc := 34) B 0 rfl dX6_addGain_34 ?_
  have hE4 : (.inr (c 1 0, zup ((m_X0_add c 103).2) 3 (zn (c 1 0)) x) : String ⊕ (Int32 × (Nat → Nat → Int32))) = m_X6_addGain c x := hE3002
  exact zx_iret (pc := 35) B (c 1 0) hr (fun H hP => ⟨(c 1 0, zup ((m_X0_add c 103).2) 3 (zn (c 1 0)) x), ⟨hE4.symm, rfl, (zfr.up (zfr.call zfr.refl hF2003 (by omega)) (by omega)), (zG.free hg2003 (by unfold zfree; omega))⟩, hP⟩) (Nat.le_of_ble_eq_true rfl) (Nat.le_of_ble_eq_true rfl) dX6_addGain_35

def m_X6_addDelay (c : Nat → Nat → Int32) (x y : Int32) : String ⊕ (Int32 × (Nat → Nat → Int32)) := xb (m_X6_refuseOutside x 1 60) (fun u1 => xb (m_X6_refuseOutside y (-95) 95) (fun u2 => xb (m_X6_refuseFullBoard c) (fun u3 => .inr (c 1 0, zup (zup ((m_X0_add c 100).2) 4 (zn (c 1 0)) x) 5 (zn (c 1 0)) y))))
set_option maxRecDepth 100000 in
set_option maxHeartbeats 4000000 in
theorem k_X6_addDelay (l : Launch) (E : zE) (b : Nat) (c : Nat → Nat → Int32) (w : Nat → Int64) (en : Nat → Nat) (ea : Nat → Nat → Int32) (x y : Int32) (hg : zG c) (hlf : l.stackTraces = false) : zX l yX6_addDelay (.code yX6_addDelay cX6_addDelay 4 (some .int) :: zAll) (zRm 7 3 18) E b [.ref (b + 0), .int x, .int y] (zH E b c w en ea) (fun v9 (u9 : Int32 × (Nat → Nat → Int32)) => (m_X6_addDelay c x y) = .inr u9 ∧ v9 = some (.int u9.1) ∧ zfr 1 34 1 1 c u9.2 ∧ zG u9.2) (fun (u9 : Int32 × (Nat → Nat → Int32)) => zH E b u9.2 w en ea) (fun X9 => (m_X6_addDelay c x y) = .inl X9) 3 18 := by
  refine zX_of "ToneGraph" (by decide) rfl rfl (Nat.le_of_ble_eq_true rfl) (L0 := [(0, .ref (b + 0)), (1, .int x), (2, .int y)]) rfl ?_
  intro p e s m args below meth c9 B hr htab
  refine zv_iload_n (pc := 0) B 1 rfl dX6_addDelay_0 ?_
  refine zv_iconst (pc := 1) (v := 1) B rfl dX6_addDelay_1 ?_
  refine zv_bipush (pc := 2) (v := 60) B rfl dX6_addDelay_2 ?_
  have hX1 : (xb (m_X6_refuseOutside x 1 60) (fun u1 => xb (m_X6_refuseOutside y (-95) 95) (fun u2 => xb (m_X6_refuseFullBoard c) (fun u3 => .inr (c 1 0, zup (zup ((m_X0_add c 100).2) 4 (zn (c 1 0)) x) 5 (zn (c 1 0)) y)))) : String ⊕ (Int32 × (Nat → Nat → Int32))) = m_X6_addDelay c x y := (by unfold m_X6_addDelay; rfl)
  refine zv_callSX (pc := 4) (As := [.int x, .int 1, .int 60]) (rest := []) B (k_X6_refuseOutside l E b _ _ _ _  x 1 60 hlf) (zcwS 3 6 B wm_X6_55 ws_X6_refuseOutside wn_X6 wcode_X6_refuseOutside (by decide +kernel) ⟨(Nat.le_of_ble_eq_true rfl), (Nat.le_of_ble_eq_true rfl)⟩) rfl zid rfl (Nat.le_of_ble_eq_true rfl) dX6_addDelay_4 ⟨(Nat.le_of_ble_eq_true rfl), (Nat.le_of_ble_eq_true rfl)⟩ (fun X9 hX9 => zx_out B htab (xb_inl hX1 hX9) zid (Nat.le_of_ble_eq_true rfl) (Nat.le_of_ble_eq_true rfl)) (fun v9 u1 hv9 => ?_)
  obtain ⟨hu1, rfl⟩ := hv9
  have hE3001 : (xb (m_X6_refuseOutside y (-95) 95) (fun u2 => xb (m_X6_refuseFullBoard c) (fun u3 => .inr (c 1 0, zup (zup ((m_X0_add c 100).2) 4 (zn (c 1 0)) x) 5 (zn (c 1 0)) y))) : String ⊕ (Int32 × (Nat → Nat → Int32))) = m_X6_addDelay c x y := by have h9 := xb_inr hX1 hu1; exact h9
  refine zv_st (st' := []) rfl ?_
  have hrx := ro_rng hu1 (a := 1) (b' := 60) rfl rfl (by decide) (by decide)
  have hbx : zn x < 61 := by omega
  refine zv_iload_n (pc := 7) B 2 rfl dX6_addDelay_7 ?_
  refine zv_bipush (pc := 8) (v := (-95)) B rfl dX6_addDelay_8 ?_
  refine zv_bipush (pc := 10) (v := 95) B rfl dX6_addDelay_10 ?_
  have hX2 : (xb (m_X6_refuseOutside y (-95) 95) (fun u2 => xb (m_X6_refuseFullBoard c) (fun u3 => .inr (c 1 0, zup (zup ((m_X0_add c 100).2) 4 (zn (c 1 0)) x) 5 (zn (c 1 0)) y))) : String ⊕ (Int32 × (Nat → Nat → Int32))) = m_X6_addDelay c x y := hE3001
  refine zv_callSX (pc := 12) (As := [.int y, .int (-95), .int 95]) (rest := []) B (k_X6_refuseOutside l E b _ _ _ _  y (-95) 95 hlf) (zcwS 3 6 B wm_X6_55 ws_X6_refuseOutside wn_X6 wcode_X6_refuseOutside (by decide +kernel) ⟨(Nat.le_of_ble_eq_true rfl), (Nat.le_of_ble_eq_true rfl)⟩) rfl zid rfl (Nat.le_of_ble_eq_true rfl) dX6_addDelay_12 ⟨(Nat.le_of_ble_eq_true rfl), (Nat.le_of_ble_eq_true rfl)⟩ (fun X9 hX9 => zx_out B htab (xb_inl hX2 hX9) zid (Nat.le_of_ble_eq_true rfl) (Nat.le_of_ble_eq_true rfl)) (fun v9 u2 hv9 => ?_)
  obtain ⟨hu2, rfl⟩ := hv9
  have hE3002 : (xb (m_X6_refuseFullBoard c) (fun u3 => .inr (c 1 0, zup (zup ((m_X0_add c 100).2) 4 (zn (c 1 0)) x) 5 (zn (c 1 0)) y)) : String ⊕ (Int32 × (Nat → Nat → Int32))) = m_X6_addDelay c x y := by have h9 := xb_inr hX2 hu2; exact h9
  refine zv_st (st' := []) rfl ?_
  refine zv_aload_n (pc := 15) B 0 rfl dX6_addDelay_15 ?_
  have hX3 : (xb (m_X6_refuseFullBoard c) (fun u3 => .inr (c 1 0, zup (zup ((m_X0_add c 100).2) 4 (zn (c 1 0)) x) 5 (zn (c 1 0)) y)) : String ⊕ (Int32 × (Nat → Nat → Int32))) = m_X6_addDelay c x y := hE3002
  refine zv_callVX (pc := 16) (As := []) (rest := []) B (k_X6_refuseFullBoard l E b _ _ _ _  hg hlf) (zcwV 0 6 B wm_X6_59 wi_X6_refuseFullBoard wv_X6_refuseFullBoard wn_X6 wcode_X6_refuseFullBoard rfl (by decide +kernel) ⟨(Nat.le_of_ble_eq_true rfl), (Nat.le_of_ble_eq_true rfl)⟩) rfl (zrecv B (zat (by decide) (z0 _ _ _)) cl6) zid rfl (Nat.le_of_ble_eq_true rfl) dX6_addDelay_16 ⟨(Nat.le_of_ble_eq_true rfl), (Nat.le_of_ble_eq_true rfl)⟩ (fun X9 hX9 => zx_out B htab (xb_inl hX3 hX9) zid (Nat.le_of_ble_eq_true rfl) (Nat.le_of_ble_eq_true rfl)) (fun v9 u3 hv9 => ?_)
  obtain ⟨hu3, rfl⟩ := hv9
  have hE3003 : (.inr (c 1 0, zup (zup ((m_X0_add c 100).2) 4 (zn (c 1 0)) x) 5 (zn (c 1 0)) y) : String ⊕ (Int32 × (Nat → Nat → Int32))) = m_X6_addDelay c x y := by have h9 := xb_inr hX3 hu3; exact h9
  refine zv_st (st' := []) rfl ?_
  have hroom := rb_ok hg hu3
  refine zv_aload_n (pc := 19) B 0 rfl dX6_addDelay_19 ?_
  refine zv_get (pc := 20) (v := .ref (b + 1)) B (zat (by decide) (z0 _ _ _)) cl6 inX6 0 (by decide) wf_X6_10 rfl dX6_addDelay_20 ?_
  refine zv_bipush (pc := 23) (v := 100) B rfl dX6_addDelay_23 ?_
  refine zv_callV (pc := 25) (As := [.int 100]) (rest := []) B (k_X0_add l E b _ _ _ _  100 (show zn _ ≤ 65535 by decide) hroom hg) (zcwV 1 4 B wm_X6_62 wi_X0_add wv_X0_add wn_X0 wcode_X0_add rfl (by decide +kernel) ⟨(Nat.le_of_ble_eq_true rfl), (Nat.le_of_ble_eq_true rfl)⟩) rfl (zrecv B (zat (by decide) (z1 _ _ _)) cl0) zid rfl (Nat.le_of_ble_eq_true rfl) dX6_addDelay_25 ⟨(Nat.le_of_ble_eq_true rfl), (Nat.le_of_ble_eq_true rfl)⟩ (fun v9 u9 hv9 => ?_)
  obtain ⟨rfl, hF2004, hg2004⟩ := hv9
  refine zv_st (st' := [.int ((m_X0_add c 100).1)]) rfl ?_
  refine zv_topi (y := c 1 0) rfl ?_
  refine zv_istore_n (pc := 28) (L' := [(3, .int (c 1 0)), (0, .ref (b + 0)), (1, .int x), (2, .int y)]) B (by decide) rfl dX6_addDelay_28 ?_
  refine zv_aload_n (pc := 29) B 1 rfl dX6_addDelay_29 ?_
  refine zv_get (pc := 30) (v := .ref (b + 1)) B (zat (by decide) (z0 _ _ _)) cl6 inX6 0 (by decide) wf_X6_10 rfl dX6_addDelay_30 ?_
  refine zv_get (pc := 33) (v := .ref (b + 4)) B (zat (by decide) (z1 _ _ _)) cl0 inX0 4 (by decide) wf_X6_69 rfl dX6_addDelay_33 ?_
  refine zv_iload_n (pc := 36) B 0 rfl dX6_addDelay_36 ?_
  refine zv_iload_n (pc := 37) B 2 rfl dX6_addDelay_37 ?_
  refine zs_iast (pc := 38) (jj := (zn (c 1 0))) B zid (by decide) rfl (fun x w e => z4 x w e) (zn_eq (c 1 0)) hroom (by decide) dX6_addDelay_38 ?_
  refine zv_aload_n (pc := 39) B 1 rfl dX6_addDelay_39 ?_
  refine zv_get (pc := 40) (v := .ref (b + 1)) B (zat (by decide) (z0 _ _ _)) cl6 inX6 0 (by decide) wf_X6_10 rfl dX6_addDelay_40 ?_
  refine zv_get (pc := 43) (v := .ref (b + 5)) B (zat (by decide) (z1 _ _ _)) cl0 inX0 5 (by decide) wf_X6_72 rfl dX6_addDelay_43 ?_
  refine zv_iload_n (pc := 46) B 0 rfl dX6_addDelay_46 ?_
  refine zv_iload_n (pc := 47) B 3 rfl dX6_addDelay_47 ?_
  refine zs_iast (pc := 48) (jj := (zn (c 1 0))) B zid (by decide) rfl (fun x w e => z5 x w e) (zn_eq (c 1 0)) hroom (by decide) dX6_addDelay_48 ?_
  refine zv_iload_n (pc := 49) B 0 rfl dX6_addDelay_49 ?_
  have hE5 : (.inr (c 1 0, zup (zup ((m_X0_add c 100).2) 4 (zn (c 1 0)) x) 5 (zn (c 1 0)) y) : String ⊕ (Int32 × (Nat → Nat → Int32))) = m_X6_addDelay c x y := hE3003
  exact zx_iret (pc := 50) B (c 1 0) hr (fun H hP => ⟨(c 1 0, zup (zup ((m_X0_add c 100).2) 4 (zn (c 1 0)) x) 5 (zn (c 1 0)) y), ⟨hE5.symm, rfl, (zfr.up (zfr.up (zfr.call zfr.refl hF2004 (by omega)) (by omega)) (by omega)), (zG.free (zG.up hg2004 (show zn _ ≤ 60 from (by have h8 := hbx; omega))) (by unfold zfree; omega))⟩, hP⟩) (Nat.le_of_ble_eq_true rfl) (Nat.le_of_ble_eq_true rfl) dX6_addDelay_50

def m_X6_addFilter (c : Nat → Nat → Int32) (x y z : Int32) : String ⊕ (Int32 × (Nat → Nat → Int32)) := xb (m_X6_refuseOutside x (-64) 64) (fun u1 => xb (m_X6_refuseOutside y (-64) 64) (fun u2 => xb (m_X6_refuseOutside z (-64) 64) (fun u3 => xb (m_X6_refuseFullBoard c) (fun u4 => .inr (c 1 0, zup (zup (zup ((m_X0_add c 102).2) 6 (zn (c 1 0)) x) 7 (zn (c 1 0)) y) 8 (zn (c 1 0)) z)))))
set_option maxRecDepth 100000 in
set_option maxHeartbeats 4000000 in
theorem k_X6_addFilter (l : Launch) (E : zE) (b : Nat) (c : Nat → Nat → Int32) (w : Nat → Int64) (en : Nat → Nat) (ea : Nat → Nat → Int32) (x y z : Int32) (hg : zG c) (hlf : l.stackTraces = false) : zX l yX6_addFilter (.code yX6_addFilter cX6_addFilter 5 (some .int) :: zAll) (zRm 7 4 24) E b [.ref (b + 0), .int x, .int y, .int z] (zH E b c w en ea) (fun v9 (u9 : Int32 × (Nat → Nat → Int32)) => (m_X6_addFilter c x y z) = .inr u9 ∧ v9 = some (.int u9.1) ∧ zfr 1 34 1 1 c u9.2 ∧ zG u9.2) (fun (u9 : Int32 × (Nat → Nat → Int32)) => zH E b u9.2 w en ea) (fun X9 => (m_X6_addFilter c x y z) = .inl X9) 4 24 := by
  refine zX_of "ToneGraph" (by decide) rfl rfl (Nat.le_of_ble_eq_true rfl) (L0 := [(0, .ref (b + 0)), (1, .int x), (2, .int y), (3, .int z)]) rfl ?_
  intro p e s m args below meth c9 B hr htab
  refine zv_iload_n (pc := 0) B 1 rfl dX6_addFilter_0 ?_
  refine zv_bipush (pc := 1) (v := (-64)) B rfl dX6_addFilter_1 ?_
  refine zv_bipush (pc := 3) (v := 64) B rfl dX6_addFilter_3 ?_
  have hX1 : (xb (m_X6_refuseOutside x (-64) 64) (fun u1 => xb (m_X6_refuseOutside y (-64) 64) (fun u2 => xb (m_X6_refuseOutside z (-64) 64) (fun u3 => xb (m_X6_refuseFullBoard c) (fun u4 => .inr (c 1 0, zup (zup (zup ((m_X0_add c 102).2) 6 (zn (c 1 0)) x) 7 (zn (c 1 0)) y) 8 (zn (c 1 0)) z))))) : String ⊕ (Int32 × (Nat → Nat → Int32))) = m_X6_addFilter c x y z := (by unfold m_X6_addFilter; rfl)
  refine zv_callSX (pc := 5) (As := [.int x, .int (-64), .int 64]) (rest := []) B (k_X6_refuseOutside l E b _ _ _ _  x (-64) 64 hlf) (zcwS 3 6 B wm_X6_55 ws_X6_refuseOutside wn_X6 wcode_X6_refuseOutside (by decide +kernel) ⟨(Nat.le_of_ble_eq_true rfl), (Nat.le_of_ble_eq_true rfl)⟩) rfl zid rfl (Nat.le_of_ble_eq_true rfl) dX6_addFilter_5 ⟨(Nat.le_of_ble_eq_true rfl), (Nat.le_of_ble_eq_true rfl)⟩ (fun X9 hX9 => zx_out B htab (xb_inl hX1 hX9) zid (Nat.le_of_ble_eq_true rfl) (Nat.le_of_ble_eq_true rfl)) (fun v9 u1 hv9 => ?_)
  obtain ⟨hu1, rfl⟩ := hv9
  have hE3001 : (xb (m_X6_refuseOutside y (-64) 64) (fun u2 => xb (m_X6_refuseOutside z (-64) 64) (fun u3 => xb (m_X6_refuseFullBoard c) (fun u4 => .inr (c 1 0, zup (zup (zup ((m_X0_add c 102).2) 6 (zn (c 1 0)) x) 7 (zn (c 1 0)) y) 8 (zn (c 1 0)) z)))) : String ⊕ (Int32 × (Nat → Nat → Int32))) = m_X6_addFilter c x y z := by have h9 := xb_inr hX1 hu1; exact h9
  refine zv_st (st' := []) rfl ?_
  refine zv_iload_n (pc := 8) B 2 rfl dX6_addFilter_8 ?_
  refine zv_bipush (pc := 9) (v := (-64)) B rfl dX6_addFilter_9 ?_
  refine zv_bipush (pc := 11) (v := 64) B rfl dX6_addFilter_11 ?_
  have hX2 : (xb (m_X6_refuseOutside y (-64) 64) (fun u2 => xb (m_X6_refuseOutside z (-64) 64) (fun u3 => xb (m_X6_refuseFullBoard c) (fun u4 => .inr (c 1 0, zup (zup (zup ((m_X0_add c 102).2) 6 (zn (c 1 0)) x) 7 (zn (c 1 0)) y) 8 (zn (c 1 0)) z)))) : String ⊕ (Int32 × (Nat → Nat → Int32))) = m_X6_addFilter c x y z := hE3001
  refine zv_callSX (pc := 13) (As := [.int y, .int (-64), .int 64]) (rest := []) B (k_X6_refuseOutside l E b _ _ _ _  y (-64) 64 hlf) (zcwS 3 6 B wm_X6_55 ws_X6_refuseOutside wn_X6 wcode_X6_refuseOutside (by decide +kernel) ⟨(Nat.le_of_ble_eq_true rfl), (Nat.le_of_ble_eq_true rfl)⟩) rfl zid rfl (Nat.le_of_ble_eq_true rfl) dX6_addFilter_13 ⟨(Nat.le_of_ble_eq_true rfl), (Nat.le_of_ble_eq_true rfl)⟩ (fun X9 hX9 => zx_out B htab (xb_inl hX2 hX9) zid (Nat.le_of_ble_eq_true rfl) (Nat.le_of_ble_eq_true rfl)) (fun v9 u2 hv9 => ?_)
  obtain ⟨hu2, rfl⟩ := hv9
  have hE3002 : (xb (m_X6_refuseOutside z (-64) 64) (fun u3 => xb (m_X6_refuseFullBoard c) (fun u4 => .inr (c 1 0, zup (zup (zup ((m_X0_add c 102).2) 6 (zn (c 1 0)) x) 7 (zn (c 1 0)) y) 8 (zn (c 1 0)) z))) : String ⊕ (Int32 × (Nat → Nat → Int32))) = m_X6_addFilter c x y z := by have h9 := xb_inr hX2 hu2; exact h9
  refine zv_st (st' := []) rfl ?_
  refine zv_iload_n (pc := 16) B 3 rfl dX6_addFilter_16 ?_
  refine zv_bipush (pc := 17) (v := (-64)) B rfl dX6_addFilter_17 ?_
  refine zv_bipush (pc := 19) (v := 64) B rfl dX6_addFilter_19 ?_
  have hX3 : (xb (m_X6_refuseOutside z (-64) 64) (fun u3 => xb (m_X6_refuseFullBoard c) (fun u4 => .inr (c 1 0, zup (zup (zup ((m_X0_add c 102).2) 6 (zn (c 1 0)) x) 7 (zn (c 1 0)) y) 8 (zn (c 1 0)) z))) : String ⊕ (Int32 × (Nat → Nat → Int32))) = m_X6_addFilter c x y z := hE3002
  refine zv_callSX (pc := 21) (As := [.int z, .int (-64), .int 64]) (rest := []) B (k_X6_refuseOutside l E b _ _ _ _  z (-64) 64 hlf) (zcwS 3 6 B wm_X6_55 ws_X6_refuseOutside wn_X6 wcode_X6_refuseOutside (by decide +kernel) ⟨(Nat.le_of_ble_eq_true rfl), (Nat.le_of_ble_eq_true rfl)⟩) rfl zid rfl (Nat.le_of_ble_eq_true rfl) dX6_addFilter_21 ⟨(Nat.le_of_ble_eq_true rfl), (Nat.le_of_ble_eq_true rfl)⟩ (fun X9 hX9 => zx_out B htab (xb_inl hX3 hX9) zid (Nat.le_of_ble_eq_true rfl) (Nat.le_of_ble_eq_true rfl)) (fun v9 u3 hv9 => ?_)
  obtain ⟨hu3, rfl⟩ := hv9
  have hE3003 : (xb (m_X6_refuseFullBoard c) (fun u4 => .inr (c 1 0, zup (zup (zup ((m_X0_add c 102).2) 6 (zn (c 1 0)) x) 7 (zn (c 1 0)) y) 8 (zn (c 1 0)) z)) : String ⊕ (Int32 × (Nat → Nat → Int32))) = m_X6_addFilter c x y z := by have h9 := xb_inr hX3 hu3; exact h9
  refine zv_st (st' := []) rfl ?_
  refine zv_aload_n (pc := 24) B 0 rfl dX6_addFilter_24 ?_
  have hX4 : (xb (m_X6_refuseFullBoard c) (fun u4 => .inr (c 1 0, zup (zup (zup ((m_X0_add c 102).2) 6 (zn (c 1 0)) x) 7 (zn (c 1 0)) y) 8 (zn (c 1 0)) z)) : String ⊕ (Int32 × (Nat → Nat → Int32))) = m_X6_addFilter c x y z := hE3003
  refine zv_callVX (pc := 25) (As := []) (rest := []) B (k_X6_refuseFullBoard l E b _ _ _ _  hg hlf) (zcwV 0 6 B wm_X6_59 wi_X6_refuseFullBoard wv_X6_refuseFullBoard wn_X6 wcode_X6_refuseFullBoard rfl (by decide +kernel) ⟨(Nat.le_of_ble_eq_true rfl), (Nat.le_of_ble_eq_true rfl)⟩) rfl (zrecv B (zat (by decide) (z0 _ _ _)) cl6) zid rfl (Nat.le_of_ble_eq_true rfl) dX6_addFilter_25 ⟨(Nat.le_of_ble_eq_true rfl), (Nat.le_of_ble_eq_true rfl)⟩ (fun X9 hX9 => zx_out B htab (xb_inl hX4 hX9) zid (Nat.le_of_ble_eq_true rfl) (Nat.le_of_ble_eq_true rfl)) (fun v9 u4 hv9 => ?_)
  obtain ⟨hu4, rfl⟩ := hv9
  have hE3004 : (.inr (c 1 0, zup (zup (zup ((m_X0_add c 102).2) 6 (zn (c 1 0)) x) 7 (zn (c 1 0)) y) 8 (zn (c 1 0)) z) : String ⊕ (Int32 × (Nat → Nat → Int32))) = m_X6_addFilter c x y z := by have h9 := xb_inr hX4 hu4; exact h9
  refine zv_st (st' := []) rfl ?_
  have hroom := rb_ok hg hu4
  refine zv_aload_n (pc := 28) B 0 rfl dX6_addFilter_28 ?_
  refine zv_get (pc := 29) (v := .ref (b + 1)) B (zat (by decide) (z0 _ _ _)) cl6 inX6 0 (by decide) wf_X6_10 rfl dX6_addFilter_29 ?_
  refine zv_bipush (pc := 32) (v := 102) B rfl dX6_addFilter_32 ?_
  refine zv_callV (pc := 34) (As := [.int 102]) (rest := []) B (k_X0_add l E b _ _ _ _  102 (show zn _ ≤ 65535 by decide) hroom hg) (zcwV 1 4 B wm_X6_62 wi_X0_add wv_X0_add wn_X0 wcode_X0_add rfl (by decide +kernel) ⟨(Nat.le_of_ble_eq_true rfl), (Nat.le_of_ble_eq_true rfl)⟩) rfl (zrecv B (zat (by decide) (z1 _ _ _)) cl0) zid rfl (Nat.le_of_ble_eq_true rfl) dX6_addFilter_34 ⟨(Nat.le_of_ble_eq_true rfl), (Nat.le_of_ble_eq_true rfl)⟩ (fun v9 u9 hv9 => ?_)
  obtain ⟨rfl, hF2005, hg2005⟩ := hv9
  refine zv_st (st' := [.int ((m_X0_add c 102).1)]) rfl ?_
  refine zv_topi (y := c 1 0) rfl ?_
  refine zv_istore (pc := 37) (L' := [(4, .int (c 1 0)), (0, .ref (b + 0)), (1, .int x), (2, .int y), (3, .int z)]) B (by decide) rfl dX6_addFilter_37 ?_
  refine zv_aload_n (pc := 39) B 1 rfl dX6_addFilter_39 ?_
  refine zv_get (pc := 40) (v := .ref (b + 1)) B (zat (by decide) (z0 _ _ _)) cl6 inX6 0 (by decide) wf_X6_10 rfl dX6_addFilter_40 ?_
  refine zv_get (pc := 43) (v := .ref (b + 6)) B (zat (by decide) (z1 _ _ _)) cl0 inX0 6 (by decide) wf_X6_75 rfl dX6_addFilter_43 ?_
  refine zv_iload (pc := 46) B 0 rfl dX6_addFilter_46 ?_
  refine zv_iload_n (pc := 48) B 2 rfl dX6_addFilter_48 ?_
  refine zs_iast (pc := 49) (jj := (zn (c 1 0))) B zid (by decide) rfl (fun x w e => z6 x w e) (zn_eq (c 1 0)) hroom (by decide) dX6_addFilter_49 ?_
  refine zv_aload_n (pc := 50) B 1 rfl dX6_addFilter_50 ?_
  refine zv_get (pc := 51) (v := .ref (b + 1)) B (zat (by decide) (z0 _ _ _)) cl6 inX6 0 (by decide) wf_X6_10 rfl dX6_addFilter_51 ?_
  refine zv_get (pc := 54) (v := .ref (b + 7)) B (zat (by decide) (z1 _ _ _)) cl0 inX0 7 (by decide) wf_X6_78 rfl dX6_addFilter_54 ?_
  refine zv_iload (pc := 57) B 0 rfl dX6_addFilter_57 ?_
  refine zv_iload_n (pc := 59) B 3 rfl dX6_addFilter_59 ?_
  refine zs_iast (pc := 60) (jj := (zn (c 1 0))) B zid (by decide) rfl (fun x w e => z7 x w e) (zn_eq (c 1 0)) hroom (by decide) dX6_addFilter_60 ?_
  refine zv_aload_n (pc := 61) B 1 rfl dX6_addFilter_61 ?_
  refine zv_get (pc := 62) (v := .ref (b + 1)) B (zat (by decide) (z0 _ _ _)) cl6 inX6 0 (by decide) wf_X6_10 rfl dX6_addFilter_62 ?_
  refine zv_get (pc := 65) (v := .ref (b + 8)) B (zat (by decide) (z1 _ _ _)) cl0 inX0 8 (by decide) wf_X6_81 rfl dX6_addFilter_65 ?_
  refine zv_iload (pc := 68) B 0 rfl dX6_addFilter_68 ?_
  refine zv_iload_n (pc := 70) B 4 rfl dX6_addFilter_70 ?_
  refine zs_iast (pc := 71) (jj := (zn (c 1 0))) B zid (by decide) rfl (fun x w e => z8 x w e) (zn_eq (c 1 0)) hroom (by decide) dX6_addFilter_71 ?_
  refine zv_iload (pc := 72) B 0 rfl dX6_addFilter_72 ?_
  have hE6 : (.inr (c 1 0, zup (zup (zup ((m_X0_add c 102).2) 6 (zn (c 1 0)) x) 7 (zn (c 1 0)) y) 8 (zn (c 1 0)) z) : String ⊕ (Int32 × (Nat → Nat → Int32))) = m_X6_addFilter c x y z := hE3004
  exact zx_iret (pc := 74) B (c 1 0) hr (fun H hP => ⟨(c 1 0, zup (zup (zup ((m_X0_add c 102).2) 6 (zn (c 1 0)) x) 7 (zn (c 1 0)) y) 8 (zn (c 1 0)) z), ⟨hE6.symm, rfl, (zfr.up (zfr.up (zfr.up (zfr.call zfr.refl hF2005 (by omega)) (by omega)) (by omega)) (by omega)), (zG.free (zG.free (zG.free hg2005 (by unfold zfree; omega)) (by unfold zfree; omega)) (by unfold zfree; omega))⟩, hP⟩) (Nat.le_of_ble_eq_true rfl) (Nat.le_of_ble_eq_true rfl) dX6_addFilter_74

def m_X6_addBus (c : Nat → Nat → Int32) (x : Int32) : String ⊕ (Int32 × (Nat → Nat → Int32)) := xb (m_X6_refuseOutside x 0 32767) (fun u1 => xb (m_X6_refuseFullBoard c) (fun u2 => .inr (c 1 0, zup ((m_X0_add c 98).2) 9 (zn (c 1 0)) x)))
set_option maxRecDepth 100000 in
set_option maxHeartbeats 4000000 in
theorem k_X6_addBus (l : Launch) (E : zE) (b : Nat) (c : Nat → Nat → Int32) (w : Nat → Int64) (en : Nat → Nat) (ea : Nat → Nat → Int32) (x : Int32) (hg : zG c) (hlf : l.stackTraces = false) : zX l yX6_addBus (.code yX6_addBus cX6_addBus 3 (some .int) :: zAll) (zRm 7 2 12) E b [.ref (b + 0), .int x] (zH E b c w en ea) (fun v9 (u9 : Int32 × (Nat → Nat → Int32)) => (m_X6_addBus c x) = .inr u9 ∧ v9 = some (.int u9.1) ∧ zfr 1 34 1 1 c u9.2 ∧ zG u9.2) (fun (u9 : Int32 × (Nat → Nat → Int32)) => zH E b u9.2 w en ea) (fun X9 => (m_X6_addBus c x) = .inl X9) 2 12 := by
  refine zX_of "ToneGraph" (by decide) rfl rfl (Nat.le_of_ble_eq_true rfl) (L0 := [(0, .ref (b + 0)), (1, .int x)]) rfl ?_
  intro p e s m args below meth c9 B hr htab
  refine zv_iload_n (pc := 0) B 1 rfl dX6_addBus_0 ?_
  refine zv_iconst (pc := 1) (v := 0) B rfl dX6_addBus_1 ?_
  refine zv_sipush (pc := 2) (v := 32767) B rfl dX6_addBus_2 ?_
  have hX1 : (xb (m_X6_refuseOutside x 0 32767) (fun u1 => xb (m_X6_refuseFullBoard c) (fun u2 => .inr (c 1 0, zup ((m_X0_add c 98).2) 9 (zn (c 1 0)) x))) : String ⊕ (Int32 × (Nat → Nat → Int32))) = m_X6_addBus c x := (by unfold m_X6_addBus; rfl)
  refine zv_callSX (pc := 5) (As := [.int x, .int 0, .int 32767]) (rest := []) B (k_X6_refuseOutside l E b _ _ _ _  x 0 32767 hlf) (zcwS 3 6 B wm_X6_55 ws_X6_refuseOutside wn_X6 wcode_X6_refuseOutside (by decide +kernel) ⟨(Nat.le_of_ble_eq_true rfl), (Nat.le_of_ble_eq_true rfl)⟩) rfl zid rfl (Nat.le_of_ble_eq_true rfl) dX6_addBus_5 ⟨(Nat.le_of_ble_eq_true rfl), (Nat.le_of_ble_eq_true rfl)⟩ (fun X9 hX9 => zx_out B htab (xb_inl hX1 hX9) zid (Nat.le_of_ble_eq_true rfl) (Nat.le_of_ble_eq_true rfl)) (fun v9 u1 hv9 => ?_)
  obtain ⟨hu1, rfl⟩ := hv9
  have hE3001 : (xb (m_X6_refuseFullBoard c) (fun u2 => .inr (c 1 0, zup ((m_X0_add c 98).2) 9 (zn (c 1 0)) x)) : String ⊕ (Int32 × (Nat → Nat → Int32))) = m_X6_addBus c x := by have h9 := xb_inr hX1 hu1; exact h9
  refine zv_st (st' := []) rfl ?_
  refine zv_aload_n (pc := 8) B 0 rfl dX6_addBus_8 ?_
  have hX2 : (xb (m_X6_refuseFullBoard c) (fun u2 => .inr (c 1 0, zup ((m_X0_add c 98).2) 9 (zn (c 1 0)) x)) : String ⊕ (Int32 × (Nat → Nat → Int32))) = m_X6_addBus c x := hE3001
  refine zv_callVX (pc := 9) (As := []) (rest := []) B (k_X6_refuseFullBoard l E b _ _ _ _  hg hlf) (zcwV 0 6 B wm_X6_59 wi_X6_refuseFullBoard wv_X6_refuseFullBoard wn_X6 wcode_X6_refuseFullBoard rfl (by decide +kernel) ⟨(Nat.le_of_ble_eq_true rfl), (Nat.le_of_ble_eq_true rfl)⟩) rfl (zrecv B (zat (by decide) (z0 _ _ _)) cl6) zid rfl (Nat.le_of_ble_eq_true rfl) dX6_addBus_9 ⟨(Nat.le_of_ble_eq_true rfl), (Nat.le_of_ble_eq_true rfl)⟩ (fun X9 hX9 => zx_out B htab (xb_inl hX2 hX9) zid (Nat.le_of_ble_eq_true rfl) (Nat.le_of_ble_eq_true rfl)) (fun v9 u2 hv9 => ?_)
  obtain ⟨hu2, rfl⟩ := hv9
  have hE3002 : (.inr (c 1 0, zup ((m_X0_add c 98).2) 9 (zn (c 1 0)) x) : String ⊕ (Int32 × (Nat → Nat → Int32))) = m_X6_addBus c x := by have h9 := xb_inr hX2 hu2; exact h9
  refine zv_st (st' := []) rfl ?_
  have hroom := rb_ok hg hu2
  refine zv_aload_n (pc := 12) B 0 rfl dX6_addBus_12 ?_
  refine zv_get (pc := 13) (v := .ref (b + 1)) B (zat (by decide) (z0 _ _ _)) cl6 inX6 0 (by decide) wf_X6_10 rfl dX6_addBus_13 ?_
  refine zv_bipush (pc := 16) (v := 98) B rfl dX6_addBus_16 ?_
  refine zv_callV (pc := 18) (As := [.int 98]) (rest := []) B (k_X0_add l E b _ _ _ _  98 (show zn _ ≤ 65535 by decide) hroom hg) (zcwV 1 4 B wm_X6_62 wi_X0_add wv_X0_add wn_X0 wcode_X0_add rfl (by decide +kernel) ⟨(Nat.le_of_ble_eq_true rfl), (Nat.le_of_ble_eq_true rfl)⟩) rfl (zrecv B (zat (by decide) (z1 _ _ _)) cl0) zid rfl (Nat.le_of_ble_eq_true rfl) dX6_addBus_18 ⟨(Nat.le_of_ble_eq_true rfl), (Nat.le_of_ble_eq_true rfl)⟩ (fun v9 u9 hv9 => ?_)
  obtain ⟨rfl, hF2003, hg2003⟩ := hv9
  refine zv_st (st' := [.int ((m_X0_add c 98).1)]) rfl ?_
  refine zv_topi (y := c 1 0) rfl ?_
  refine zv_istore_n (pc := 21) (L' := [(2, .int (c 1 0)), (0, .ref (b + 0)), (1, .int x)]) B (by decide) rfl dX6_addBus_21 ?_
  refine zv_aload_n (pc := 22) B 1 rfl dX6_addBus_22 ?_
  refine zv_get (pc := 23) (v := .ref (b + 1)) B (zat (by decide) (z0 _ _ _)) cl6 inX6 0 (by decide) wf_X6_10 rfl dX6_addBus_23 ?_
  refine zv_get (pc := 26) (v := .ref (b + 9)) B (zat (by decide) (z1 _ _ _)) cl0 inX0 9 (by decide) wf_X6_84 rfl dX6_addBus_26 ?_
  refine zv_iload_n (pc := 29) B 0 rfl dX6_addBus_29 ?_
  refine zv_iload_n (pc := 30) B 2 rfl dX6_addBus_30 ?_
  refine zs_iast (pc := 31) (jj := (zn (c 1 0))) B zid (by decide) rfl (fun x w e => z9 x w e) (zn_eq (c 1 0)) hroom (by decide) dX6_addBus_31 ?_
  refine zv_iload_n (pc := 32) B 0 rfl dX6_addBus_32 ?_
  have hE4 : (.inr (c 1 0, zup ((m_X0_add c 98).2) 9 (zn (c 1 0)) x) : String ⊕ (Int32 × (Nat → Nat → Int32))) = m_X6_addBus c x := hE3002
  exact zx_iret (pc := 33) B (c 1 0) hr (fun H hP => ⟨(c 1 0, zup ((m_X0_add c 98).2) 9 (zn (c 1 0)) x), ⟨hE4.symm, rfl, (zfr.up (zfr.call zfr.refl hF2003 (by omega)) (by omega)), (zG.free hg2003 (by unfold zfree; omega))⟩, hP⟩) (Nat.le_of_ble_eq_true rfl) (Nat.le_of_ble_eq_true rfl) dX6_addBus_33

theorem z_lt4 {c : Nat → Nat → Int32} (hg : zG c) (t : Nat) (h : c 10 t < 4) : zn (c 10 t) < 4 := by
  have h8 : zn (c 10 t) ≤ 4 := hg 10 t
  exact (z_lt (b := 4) (zn_eq _) rfl (by omega) (by decide)).mp h
theorem fw_lt {c : Nat → Nat → Int32} (hg : zG c) (x : Int32) {t : Nat} : m_X0_findWire c x t = -1 ∨ zn (m_X0_findWire c x t) < zn (c 10 t) := by
  have hc : zn (c 10 t) ≤ 4 := hg 10 t
  have h : ∀ (n i : Nat) (K : Nat → Int32), i + n = zn (c 10 t) → (∀ i, K i = -1) → g1_X0_findWire c x t n i K = -1 ∨ zn (g1_X0_findWire c x t n i K) < zn (c 10 t) := by
    intro n
    induction n with
    | zero => intro i K _ hK; rw [g1_X0_findWire]; exact Or.inl (hK i)
    | succ n ih =>
      intro i K hi hK
      rw [g1_X0_findWire]
      have h1 := ih (i + 1) K (by omega) hK
      have h2 : zn (nI i) < zn (c 10 t) := by rw [zn_nI (by omega)]; omega
      split
      · exact Or.inr h2
      · exact h1
  unfold m_X0_findWire
  exact h _ _ _ (by omega) (fun _ => rfl)
theorem fh_lt (c : Nat → Nat → Int32) (ea : Nat → Nat → Int32) (o : Nat) (y : Int32) : m_X1_firstHeld c ea o y = -1 ∨ zn (m_X1_firstHeld c ea o y) < 4 := by
  have h : ∀ (n i : Nat) (x : Int32) (K : Nat → Int32 → Int32), i + n = 4 → (x = -1 ∨ zn x < 4) → (∀ i x, K i x = x) → g1_X1_firstHeld c ea o y n i x K = -1 ∨ zn (g1_X1_firstHeld c ea o y n i x K) < 4 := by
    intro n
    induction n with
    | zero => intro i x K _ hx hK; rw [g1_X1_firstHeld, hK]; exact hx
    | succ n ih =>
      intro i x K hi hx hK
      rw [g1_X1_firstHeld]
      have h2 : nI i = -1 ∨ zn (nI i) < 4 := Or.inr (by rw [zn_nI (by omega)]; omega)
      have h1 := ih (i + 1) x K (by omega) hx hK
      have h3 := ih (i + 1) (nI i) K (by omega) h2 hK
      repeat' split
      all_goals first | exact h1 | exact h3
  unfold m_X1_firstHeld
  exact h _ _ _ _ (by omega) (Or.inl rfl) (fun _ _ => rfl)
theorem stage_le (c : Nat → Nat → Int32) (ea : Nat → Nat → Int32) (o v : Nat) : zn (m_X5_stage c ea o v) ≤ 65535 := by
  unfold m_X5_stage
  repeat' split
  all_goals decide

def m_X6_connect (c : Nat → Nat → Int32) (x y z : Int32) : String ⊕ (Int32 × (Nat → Nat → Int32)) := xb (m_X6_refuseNoNode c x) (fun u1 => xb (m_X6_refuseNoNode c y) (fun u2 => xb (m_X6_refuseOutside z (-100) 100) (fun u3 => if z = 0 then (.inl "java/lang/IllegalArgumentException") else (if (m_X0_findWire c x (zn y)) = (-1) then (if (c 10 (zn y)) < 4 then (if (c 2 (zn y)) = 118 then (.inl "java/lang/UnsupportedOperationException") else (if (m_X0_closesBareCircle c (zn x) (zn y)) = 0 then (.inr ((m_X0_addWire c x (zn y) z).1, (m_X0_addWire c x (zn y) z).2)) else (.inl "java/lang/UnsupportedOperationException"))) else (.inl "java/lang/IllegalStateException")) else (.inl "java/lang/IllegalStateException")))))
set_option maxRecDepth 100000 in
set_option maxHeartbeats 4000000 in
theorem k_X6_connect (l : Launch) (E : zE) (b : Nat) (c : Nat → Nat → Int32) (w : Nat → Int64) (en : Nat → Nat) (ea : Nat → Nat → Int32) (x y z : Int32) (hg : zG c) (hlf : l.stackTraces = false) : zX l yX6_connect (.code yX6_connect cX6_connect 4 (some .int) :: zAll) (zRm 7 4 24) E b [.ref (b + 0), .int x, .int y, .int z] (zH E b c w en ea) (fun v9 (u9 : Int32 × (Nat → Nat → Int32)) => (m_X6_connect c x y z) = .inr u9 ∧ v9 = some (.int u9.1) ∧ zfr 10 34 10 10 c u9.2 ∧ zG u9.2) (fun (u9 : Int32 × (Nat → Nat → Int32)) => zH E b u9.2 w en ea) (fun X9 => (m_X6_connect c x y z) = .inl X9) 4 24 := by
  refine zX_of "ToneGraph" (by decide) rfl rfl (Nat.le_of_ble_eq_true rfl) (L0 := [(0, .ref (b + 0)), (1, .int x), (2, .int y), (3, .int z)]) rfl ?_
  intro p e s m args below meth c9 B hr htab
  refine zv_aload_n (pc := 0) B 0 rfl dX6_connect_0 ?_
  refine zv_iload_n (pc := 1) B 1 rfl dX6_connect_1 ?_
  have hX1 : (xb (m_X6_refuseNoNode c x) (fun u1 => xb (m_X6_refuseNoNode c y) (fun u2 => xb (m_X6_refuseOutside z (-100) 100) (fun u3 => if z = 0 then (.inl "java/lang/IllegalArgumentException") else (if (m_X0_findWire c x (zn y)) = (-1) then (if (c 10 (zn y)) < 4 then (if (c 2 (zn y)) = 118 then (.inl "java/lang/UnsupportedOperationException") else (if (m_X0_closesBareCircle c (zn x) (zn y)) = 0 then (.inr ((m_X0_addWire c x (zn y) z).1, (m_X0_addWire c x (zn y) z).2)) else (.inl "java/lang/UnsupportedOperationException"))) else (.inl "java/lang/IllegalStateException")) else (.inl "java/lang/IllegalStateException"))))) : String ⊕ (Int32 × (Nat → Nat → Int32))) = m_X6_connect c x y z := (by unfold m_X6_connect; rfl)
  refine zv_callVX (pc := 2) (As := [.int x]) (rest := []) B (k_X6_refuseNoNode l E b _ _ _ _  x hg hlf) (zcwV 1 6 B wm_X6_87 wi_X6_refuseNoNode wv_X6_refuseNoNode wn_X6 wcode_X6_refuseNoNode rfl (by decide +kernel) ⟨(Nat.le_of_ble_eq_true rfl), (Nat.le_of_ble_eq_true rfl)⟩) rfl (zrecv B (zat (by decide) (z0 _ _ _)) cl6) zid rfl (Nat.le_of_ble_eq_true rfl) dX6_connect_2 ⟨(Nat.le_of_ble_eq_true rfl), (Nat.le_of_ble_eq_true rfl)⟩ (fun X9 hX9 => zx_out B htab (xb_inl hX1 hX9) zid (Nat.le_of_ble_eq_true rfl) (Nat.le_of_ble_eq_true rfl)) (fun v9 u1 hv9 => ?_)
  obtain ⟨hu1, rfl⟩ := hv9
  have hE3001 : (xb (m_X6_refuseNoNode c y) (fun u2 => xb (m_X6_refuseOutside z (-100) 100) (fun u3 => if z = 0 then (.inl "java/lang/IllegalArgumentException") else (if (m_X0_findWire c x (zn y)) = (-1) then (if (c 10 (zn y)) < 4 then (if (c 2 (zn y)) = 118 then (.inl "java/lang/UnsupportedOperationException") else (if (m_X0_closesBareCircle c (zn x) (zn y)) = 0 then (.inr ((m_X0_addWire c x (zn y) z).1, (m_X0_addWire c x (zn y) z).2)) else (.inl "java/lang/UnsupportedOperationException"))) else (.inl "java/lang/IllegalStateException")) else (.inl "java/lang/IllegalStateException")))) : String ⊕ (Int32 × (Nat → Nat → Int32))) = m_X6_connect c x y z := by have h9 := xb_inr hX1 hu1; exact h9
  refine zv_st (st' := []) rfl ?_
  have hnx := rn_ok hg hu1
  have hbx : zn x < 10 := by have := (show zn (c 1 0) ≤ 10 from hg 1 0); omega
  refine zv_aload_n (pc := 5) B 0 rfl dX6_connect_5 ?_
  refine zv_iload_n (pc := 6) B 2 rfl dX6_connect_6 ?_
  have hX2 : (xb (m_X6_refuseNoNode c y) (fun u2 => xb (m_X6_refuseOutside z (-100) 100) (fun u3 => if z = 0 then (.inl "java/lang/IllegalArgumentException") else (if (m_X0_findWire c x (zn y)) = (-1) then (if (c 10 (zn y)) < 4 then (if (c 2 (zn y)) = 118 then (.inl "java/lang/UnsupportedOperationException") else (if (m_X0_closesBareCircle c (zn x) (zn y)) = 0 then (.inr ((m_X0_addWire c x (zn y) z).1, (m_X0_addWire c x (zn y) z).2)) else (.inl "java/lang/UnsupportedOperationException"))) else (.inl "java/lang/IllegalStateException")) else (.inl "java/lang/IllegalStateException")))) : String ⊕ (Int32 × (Nat → Nat → Int32))) = m_X6_connect c x y z := hE3001
  refine zv_callVX (pc := 7) (As := [.int y]) (rest := []) B (k_X6_refuseNoNode l E b _ _ _ _  y hg hlf) (zcwV 1 6 B wm_X6_87 wi_X6_refuseNoNode wv_X6_refuseNoNode wn_X6 wcode_X6_refuseNoNode rfl (by decide +kernel) ⟨(Nat.le_of_ble_eq_true rfl), (Nat.le_of_ble_eq_true rfl)⟩) rfl (zrecv B (zat (by decide) (z0 _ _ _)) cl6) zid rfl (Nat.le_of_ble_eq_true rfl) dX6_connect_7 ⟨(Nat.le_of_ble_eq_true rfl), (Nat.le_of_ble_eq_true rfl)⟩ (fun X9 hX9 => zx_out B htab (xb_inl hX2 hX9) zid (Nat.le_of_ble_eq_true rfl) (Nat.le_of_ble_eq_true rfl)) (fun v9 u2 hv9 => ?_)
  obtain ⟨hu2, rfl⟩ := hv9
  have hE3002 : (xb (m_X6_refuseOutside z (-100) 100) (fun u3 => if z = 0 then (.inl "java/lang/IllegalArgumentException") else (if (m_X0_findWire c x (zn y)) = (-1) then (if (c 10 (zn y)) < 4 then (if (c 2 (zn y)) = 118 then (.inl "java/lang/UnsupportedOperationException") else (if (m_X0_closesBareCircle c (zn x) (zn y)) = 0 then (.inr ((m_X0_addWire c x (zn y) z).1, (m_X0_addWire c x (zn y) z).2)) else (.inl "java/lang/UnsupportedOperationException"))) else (.inl "java/lang/IllegalStateException")) else (.inl "java/lang/IllegalStateException"))) : String ⊕ (Int32 × (Nat → Nat → Int32))) = m_X6_connect c x y z := by have h9 := xb_inr hX2 hu2; exact h9
  refine zv_st (st' := []) rfl ?_
  have hny := rn_ok hg hu2
  have hby : zn y < 10 := by have := (show zn (c 1 0) ≤ 10 from hg 1 0); omega
  refine zv_iload_n (pc := 10) B 3 rfl dX6_connect_10 ?_
  refine zv_bipush (pc := 11) (v := (-100)) B rfl dX6_connect_11 ?_
  refine zv_bipush (pc := 13) (v := 100) B rfl dX6_connect_13 ?_
  have hX3 : (xb (m_X6_refuseOutside z (-100) 100) (fun u3 => if z = 0 then (.inl "java/lang/IllegalArgumentException") else (if (m_X0_findWire c x (zn y)) = (-1) then (if (c 10 (zn y)) < 4 then (if (c 2 (zn y)) = 118 then (.inl "java/lang/UnsupportedOperationException") else (if (m_X0_closesBareCircle c (zn x) (zn y)) = 0 then (.inr ((m_X0_addWire c x (zn y) z).1, (m_X0_addWire c x (zn y) z).2)) else (.inl "java/lang/UnsupportedOperationException"))) else (.inl "java/lang/IllegalStateException")) else (.inl "java/lang/IllegalStateException"))) : String ⊕ (Int32 × (Nat → Nat → Int32))) = m_X6_connect c x y z := hE3002
  refine zv_callSX (pc := 15) (As := [.int z, .int (-100), .int 100]) (rest := []) B (k_X6_refuseOutside l E b _ _ _ _  z (-100) 100 hlf) (zcwS 3 6 B wm_X6_55 ws_X6_refuseOutside wn_X6 wcode_X6_refuseOutside (by decide +kernel) ⟨(Nat.le_of_ble_eq_true rfl), (Nat.le_of_ble_eq_true rfl)⟩) rfl zid rfl (Nat.le_of_ble_eq_true rfl) dX6_connect_15 ⟨(Nat.le_of_ble_eq_true rfl), (Nat.le_of_ble_eq_true rfl)⟩ (fun X9 hX9 => zx_out B htab (xb_inl hX3 hX9) zid (Nat.le_of_ble_eq_true rfl) (Nat.le_of_ble_eq_true rfl)) (fun v9 u3 hv9 => ?_)
  obtain ⟨hu3, rfl⟩ := hv9
  have hE3003 : (if z = 0 then (.inl "java/lang/IllegalArgumentException") else (if (m_X0_findWire c x (zn y)) = (-1) then (if (c 10 (zn y)) < 4 then (if (c 2 (zn y)) = 118 then (.inl "java/lang/UnsupportedOperationException") else (if (m_X0_closesBareCircle c (zn x) (zn y)) = 0 then (.inr ((m_X0_addWire c x (zn y) z).1, (m_X0_addWire c x (zn y) z).2)) else (.inl "java/lang/UnsupportedOperationException"))) else (.inl "java/lang/IllegalStateException")) else (.inl "java/lang/IllegalStateException")) : String ⊕ (Int32 × (Nat → Nat → Int32))) = m_X6_connect c x y z := by have h9 := xb_inr hX3 hu3; exact h9
  refine zv_st (st' := []) rfl ?_
  refine zv_iload_n (pc := 18) B 3 rfl dX6_connect_18 ?_
  refine zv_if_ne (pc := 19) (tgt := 32) B dX6_connect_19 rfl (fun h4 => ?_) (fun h4 => ?_)
  · refine zv_aload_n (pc := 32) B 0 rfl dX6_connect_32 ?_
    refine zv_get (pc := 33) (v := .ref (b + 1)) B (zat (by decide) (z0 _ _ _)) cl6 inX6 0 (by decide) wf_X6_10 rfl dX6_connect_33 ?_
    refine zv_iload_n (pc := 36) B 1 rfl dX6_connect_36 ?_
    refine zv_iload_n (pc := 37) B 2 rfl dX6_connect_37 ?_
    refine zv_st (st' := [.int (nI (zn y)), .int x, .ref (b + 1)]) (by rw [← zn_eq y]) ?_
    refine zv_callV (pc := 38) (As := [.int x, .int (nI (zn y))]) (rest := []) B (k_X0_findWire l E b _ _ _ _  x hby hg) (zcwV 2 0 B wm_X6_98 wi_X0_findWire wv_X0_findWire wn_X0 wcode_X0_findWire rfl (by decide +kernel) ⟨(Nat.le_of_ble_eq_true rfl), (Nat.le_of_ble_eq_true rfl)⟩) rfl (zrecv B (zat (by decide) (z1 _ _ _)) cl0) zid rfl (Nat.le_of_ble_eq_true rfl) dX6_connect_38 ⟨(Nat.le_of_ble_eq_true rfl), (Nat.le_of_ble_eq_true rfl)⟩ (fun v9 u9 hv9 => ?_)
    subst hv9
    refine zv_st (st' := [.int (m_X0_findWire c x (zn y))]) rfl ?_
    refine zv_iconst (pc := 41) (v := (-1)) B rfl dX6_connect_41 ?_
    refine zv_icmp_ne (pc := 42) (tgt := 58) B dX6_connect_42 rfl (fun h5 => ?_) (fun h5 => ?_)
    · have hE6 : (.inl "java/lang/IllegalStateException" : String ⊕ (Int32 × (Nat → Nat → Int32))) = m_X6_connect c x y z := (Eq.trans (by rw [if_neg h4, if_neg h5]) hE3003)
      exact zx_throw (pc := 58) (j := 1) B hlf htab (by decide +kernel) (by decide +kernel) wc_X6_105 wn_IllegalStateException rfl zthr109 hE6.symm dX6_connect_58 dX6_connect_61 dX6_connect_62 dX6_connect_64 dX6_connect_67 (Nat.le_of_ble_eq_true rfl) (Nat.le_of_ble_eq_true rfl) (Nat.le_of_ble_eq_true rfl) (Nat.le_of_ble_eq_true rfl) (Nat.le_of_ble_eq_true rfl) (Nat.le_of_ble_eq_true rfl) (fun H H1 h hq => zH.kept H H1 h hq)
    · refine zv_aload_n (pc := 45) B 0 rfl dX6_connect_45 ?_
      refine zv_get (pc := 46) (v := .ref (b + 1)) B (zat (by decide) (z0 _ _ _)) cl6 inX6 0 (by decide) wf_X6_10 rfl dX6_connect_46 ?_
      refine zv_get (pc := 49) (v := .ref (b + 10)) B (zat (by decide) (z1 _ _ _)) cl0 inX0 10 (by decide) wf_X6_102 rfl dX6_connect_49 ?_
      refine zv_iload_n (pc := 52) B 2 rfl dX6_connect_52 ?_
      refine zv_iald (pc := 53) (jj := (zn y)) B (zat (by decide) (z10 _ _ _)) (zn_eq y) hby (by decide) dX6_connect_53 ?_
      refine zv_iconst (pc := 54) (v := 4) B rfl dX6_connect_54 ?_
      refine zv_icmp_lt (pc := 55) (tgt := 68) B dX6_connect_55 rfl (fun h7 => ?_) (fun h7 => ?_)
      · refine zv_aload_n (pc := 68) B 0 rfl dX6_connect_68 ?_
        refine zv_get (pc := 69) (v := .ref (b + 1)) B (zat (by decide) (z0 _ _ _)) cl6 inX6 0 (by decide) wf_X6_10 rfl dX6_connect_69 ?_
        refine zv_get (pc := 72) (v := .ref (b + 2)) B (zat (by decide) (z1 _ _ _)) cl0 inX0 2 (by decide) wf_X6_110 rfl dX6_connect_72 ?_
        refine zv_iload_n (pc := 75) B 2 rfl dX6_connect_75 ?_
        refine zv_cald (pc := 76) (jj := (zn y)) B (zat (by decide) (z2 _ _ _)) (zn_eq y) hby (by decide) dX6_connect_76 ?_
        refine zv_bipush (pc := 77) (v := 118) B rfl dX6_connect_77 ?_
        refine zv_icmp_eq (pc := 79) (tgt := 94) B dX6_connect_79 rfl (fun h8 => ?_) (fun h8 => ?_)
        · have hE9 : (.inl "java/lang/UnsupportedOperationException" : String ⊕ (Int32 × (Nat → Nat → Int32))) = m_X6_connect c x y z := (Eq.trans (by rw [if_neg h4, if_pos h5, if_pos h7, if_pos h8]) hE3003)
          exact zx_throw (pc := 94) (j := 2) B hlf htab (by decide +kernel) (by decide +kernel) wc_X6_118 wn_UnsupportedOperationException rfl zthr122 hE9.symm dX6_connect_94 dX6_connect_97 dX6_connect_98 dX6_connect_100 dX6_connect_103 (Nat.le_of_ble_eq_true rfl) (Nat.le_of_ble_eq_true rfl) (Nat.le_of_ble_eq_true rfl) (Nat.le_of_ble_eq_true rfl) (Nat.le_of_ble_eq_true rfl) (Nat.le_of_ble_eq_true rfl) (fun H H1 h hq => zH.kept H H1 h hq)
        · refine zv_aload_n (pc := 82) B 0 rfl dX6_connect_82 ?_
          refine zv_get (pc := 83) (v := .ref (b + 1)) B (zat (by decide) (z0 _ _ _)) cl6 inX6 0 (by decide) wf_X6_10 rfl dX6_connect_83 ?_
          refine zv_iload_n (pc := 86) B 1 rfl dX6_connect_86 ?_
          refine zv_iload_n (pc := 87) B 2 rfl dX6_connect_87 ?_
          refine zv_st (st' := [.int (nI (zn y)), .int (nI (zn x)), .ref (b + 1)]) (by rw [← zn_eq x, ← zn_eq y]) ?_
          refine zv_callV (pc := 88) (As := [.int (nI (zn x)), .int (nI (zn y))]) (rest := []) B (k_X0_closesBareCircle l E b _ _ _ _  hbx hby hg) (zcwV 2 2 B wm_X6_114 wi_X0_closesBareCircle wv_X0_closesBareCircle wn_X0 wcode_X0_closesBareCircle rfl (by decide +kernel) ⟨(Nat.le_of_ble_eq_true rfl), (Nat.le_of_ble_eq_true rfl)⟩) rfl (zrecv B (zat (by decide) (z1 _ _ _)) cl0) zid rfl (Nat.le_of_ble_eq_true rfl) dX6_connect_88 ⟨(Nat.le_of_ble_eq_true rfl), (Nat.le_of_ble_eq_true rfl)⟩ (fun v9 u9 hv9 => ?_)
          subst hv9
          refine zv_st (st' := [.int (m_X0_closesBareCircle c (zn x) (zn y))]) rfl ?_
          refine zv_if_eq (pc := 91) (tgt := 104) B dX6_connect_91 rfl (fun h10 => ?_) (fun h10 => ?_)
          · refine zv_aload_n (pc := 104) B 0 rfl dX6_connect_104 ?_
            refine zv_get (pc := 105) (v := .ref (b + 1)) B (zat (by decide) (z0 _ _ _)) cl6 inX6 0 (by decide) wf_X6_10 rfl dX6_connect_105 ?_
            refine zv_iload_n (pc := 108) B 1 rfl dX6_connect_108 ?_
            refine zv_iload_n (pc := 109) B 2 rfl dX6_connect_109 ?_
            refine zv_iload_n (pc := 110) B 3 rfl dX6_connect_110 ?_
            refine zv_st (st' := [.int z, .int (nI (zn y)), .int x, .ref (b + 1)]) (by rw [← zn_eq y]) ?_
            refine zv_callV (pc := 111) (As := [.int x, .int (nI (zn y)), .int z]) (rest := []) B (k_X0_addWire l E b _ _ _ _  x (by have h8 := hbx; omega) hby z (z_lt4 hg _ h7) hg) (zcwV 3 4 B wm_X6_123 wi_X0_addWire wv_X0_addWire wn_X0 wcode_X0_addWire rfl (by decide +kernel) ⟨(Nat.le_of_ble_eq_true rfl), (Nat.le_of_ble_eq_true rfl)⟩) rfl (zrecv B (zat (by decide) (z1 _ _ _)) cl0) zid rfl (Nat.le_of_ble_eq_true rfl) dX6_connect_111 ⟨(Nat.le_of_ble_eq_true rfl), (Nat.le_of_ble_eq_true rfl)⟩ (fun v9 u9 hv9 => ?_)
            obtain ⟨rfl, hF2011, hg2011⟩ := hv9
            refine zv_st (st' := [.int ((m_X0_addWire c x (zn y) z).1)]) rfl ?_
            have hE12 : (.inr ((m_X0_addWire c x (zn y) z).1, (m_X0_addWire c x (zn y) z).2) : String ⊕ (Int32 × (Nat → Nat → Int32))) = m_X6_connect c x y z := (Eq.trans (by rw [if_neg h4, if_pos h5, if_pos h7, if_neg h8, if_pos h10]) hE3003)
            exact zx_iret (pc := 114) B ((m_X0_addWire c x (zn y) z).1) hr (fun H hP => ⟨((m_X0_addWire c x (zn y) z).1, (m_X0_addWire c x (zn y) z).2), ⟨hE12.symm, rfl, (zfr.call zfr.refl hF2011 (by omega)), hg2011⟩, hP⟩) (Nat.le_of_ble_eq_true rfl) (Nat.le_of_ble_eq_true rfl) dX6_connect_114
          · have hE13 : (.inl "java/lang/UnsupportedOperationException" : String ⊕ (Int32 × (Nat → Nat → Int32))) = m_X6_connect c x y z := (Eq.trans (by rw [if_neg h4, if_pos h5, if_pos h7, if_neg h8, if_neg h10]) hE3003)
            exact zx_throw (pc := 94) (j := 2) B hlf htab (by decide +kernel) (by decide +kernel) wc_X6_118 wn_UnsupportedOperationException rfl zthr122 hE13.symm dX6_connect_94 dX6_connect_97 dX6_connect_98 dX6_connect_100 dX6_connect_103 (Nat.le_of_ble_eq_true rfl) (Nat.le_of_ble_eq_true rfl) (Nat.le_of_ble_eq_true rfl) (Nat.le_of_ble_eq_true rfl) (Nat.le_of_ble_eq_true rfl) (Nat.le_of_ble_eq_true rfl) (fun H H1 h hq => zH.kept H H1 h hq)
      · have hE14 : (.inl "java/lang/IllegalStateException" : String ⊕ (Int32 × (Nat → Nat → Int32))) = m_X6_connect c x y z := (Eq.trans (by rw [if_neg h4, if_pos h5, if_neg h7]) hE3003)
        exact zx_throw (pc := 58) (j := 1) B hlf htab (by decide +kernel) (by decide +kernel) wc_X6_105 wn_IllegalStateException rfl zthr109 hE14.symm dX6_connect_58 dX6_connect_61 dX6_connect_62 dX6_connect_64 dX6_connect_67 (Nat.le_of_ble_eq_true rfl) (Nat.le_of_ble_eq_true rfl) (Nat.le_of_ble_eq_true rfl) (Nat.le_of_ble_eq_true rfl) (Nat.le_of_ble_eq_true rfl) (Nat.le_of_ble_eq_true rfl) (fun H H1 h hq => zH.kept H H1 h hq)
  · have hE15 : (.inl "java/lang/IllegalArgumentException" : String ⊕ (Int32 × (Nat → Nat → Int32))) = m_X6_connect c x y z := (Eq.trans (by rw [if_pos h4]) hE3003)
    exact zx_throw (pc := 22) (j := 0) B hlf htab (by decide +kernel) (by decide +kernel) wc_X6_91 wn_IllegalArgumentException rfl zthr95 hE15.symm dX6_connect_22 dX6_connect_25 dX6_connect_26 dX6_connect_28 dX6_connect_31 (Nat.le_of_ble_eq_true rfl) (Nat.le_of_ble_eq_true rfl) (Nat.le_of_ble_eq_true rfl) (Nat.le_of_ble_eq_true rfl) (Nat.le_of_ble_eq_true rfl) (Nat.le_of_ble_eq_true rfl) (fun H H1 h hq => zH.kept H H1 h hq)

def m_X6_disconnect (c : Nat → Nat → Int32) (x y : Int32) : String ⊕ (Int32 × (Nat → Nat → Int32)) := xb (m_X6_refuseNoNode c x) (fun u1 => xb (m_X6_refuseNoNode c y) (fun u2 => if (m_X0_findWire c x (zn y)) = (-1) then (.inl "java/util/NoSuchElementException") else (.inr ((m_X0_removeWire c (zn y) (zn (m_X0_findWire c x (zn y)))).1, (m_X0_removeWire c (zn y) (zn (m_X0_findWire c x (zn y)))).2))))
set_option maxRecDepth 100000 in
set_option maxHeartbeats 4000000 in
theorem k_X6_disconnect (l : Launch) (E : zE) (b : Nat) (c : Nat → Nat → Int32) (w : Nat → Int64) (en : Nat → Nat) (ea : Nat → Nat → Int32) (x y : Int32) (hg : zG c) (hlf : l.stackTraces = false) : zX l yX6_disconnect (.code yX6_disconnect cX6_disconnect 4 (some .int) :: zAll) (zRm 7 3 18) E b [.ref (b + 0), .int x, .int y] (zH E b c w en ea) (fun v9 (u9 : Int32 × (Nat → Nat → Int32)) => (m_X6_disconnect c x y) = .inr u9 ∧ v9 = some (.int u9.1) ∧ zfr 10 34 10 10 c u9.2 ∧ zG u9.2) (fun (u9 : Int32 × (Nat → Nat → Int32)) => zH E b u9.2 w en ea) (fun X9 => (m_X6_disconnect c x y) = .inl X9) 3 18 := by
  refine zX_of "ToneGraph" (by decide) rfl rfl (Nat.le_of_ble_eq_true rfl) (L0 := [(0, .ref (b + 0)), (1, .int x), (2, .int y)]) rfl ?_
  intro p e s m args below meth c9 B hr htab
  refine zv_aload_n (pc := 0) B 0 rfl dX6_disconnect_0 ?_
  refine zv_iload_n (pc := 1) B 1 rfl dX6_disconnect_1 ?_
  have hX1 : (xb (m_X6_refuseNoNode c x) (fun u1 => xb (m_X6_refuseNoNode c y) (fun u2 => if (m_X0_findWire c x (zn y)) = (-1) then (.inl "java/util/NoSuchElementException") else (.inr ((m_X0_removeWire c (zn y) (zn (m_X0_findWire c x (zn y)))).1, (m_X0_removeWire c (zn y) (zn (m_X0_findWire c x (zn y)))).2)))) : String ⊕ (Int32 × (Nat → Nat → Int32))) = m_X6_disconnect c x y := (by unfold m_X6_disconnect; rfl)
  refine zv_callVX (pc := 2) (As := [.int x]) (rest := []) B (k_X6_refuseNoNode l E b _ _ _ _  x hg hlf) (zcwV 1 6 B wm_X6_87 wi_X6_refuseNoNode wv_X6_refuseNoNode wn_X6 wcode_X6_refuseNoNode rfl (by decide +kernel) ⟨(Nat.le_of_ble_eq_true rfl), (Nat.le_of_ble_eq_true rfl)⟩) rfl (zrecv B (zat (by decide) (z0 _ _ _)) cl6) zid rfl (Nat.le_of_ble_eq_true rfl) dX6_disconnect_2 ⟨(Nat.le_of_ble_eq_true rfl), (Nat.le_of_ble_eq_true rfl)⟩ (fun X9 hX9 => zx_out B htab (xb_inl hX1 hX9) zid (Nat.le_of_ble_eq_true rfl) (Nat.le_of_ble_eq_true rfl)) (fun v9 u1 hv9 => ?_)
  obtain ⟨hu1, rfl⟩ := hv9
  have hE3001 : (xb (m_X6_refuseNoNode c y) (fun u2 => if (m_X0_findWire c x (zn y)) = (-1) then (.inl "java/util/NoSuchElementException") else (.inr ((m_X0_removeWire c (zn y) (zn (m_X0_findWire c x (zn y)))).1, (m_X0_removeWire c (zn y) (zn (m_X0_findWire c x (zn y)))).2))) : String ⊕ (Int32 × (Nat → Nat → Int32))) = m_X6_disconnect c x y := by have h9 := xb_inr hX1 hu1; exact h9
  refine zv_st (st' := []) rfl ?_
  have hnx := rn_ok hg hu1
  have hbx : zn x < 10 := by have := (show zn (c 1 0) ≤ 10 from hg 1 0); omega
  refine zv_aload_n (pc := 5) B 0 rfl dX6_disconnect_5 ?_
  refine zv_iload_n (pc := 6) B 2 rfl dX6_disconnect_6 ?_
  have hX2 : (xb (m_X6_refuseNoNode c y) (fun u2 => if (m_X0_findWire c x (zn y)) = (-1) then (.inl "java/util/NoSuchElementException") else (.inr ((m_X0_removeWire c (zn y) (zn (m_X0_findWire c x (zn y)))).1, (m_X0_removeWire c (zn y) (zn (m_X0_findWire c x (zn y)))).2))) : String ⊕ (Int32 × (Nat → Nat → Int32))) = m_X6_disconnect c x y := hE3001
  refine zv_callVX (pc := 7) (As := [.int y]) (rest := []) B (k_X6_refuseNoNode l E b _ _ _ _  y hg hlf) (zcwV 1 6 B wm_X6_87 wi_X6_refuseNoNode wv_X6_refuseNoNode wn_X6 wcode_X6_refuseNoNode rfl (by decide +kernel) ⟨(Nat.le_of_ble_eq_true rfl), (Nat.le_of_ble_eq_true rfl)⟩) rfl (zrecv B (zat (by decide) (z0 _ _ _)) cl6) zid rfl (Nat.le_of_ble_eq_true rfl) dX6_disconnect_7 ⟨(Nat.le_of_ble_eq_true rfl), (Nat.le_of_ble_eq_true rfl)⟩ (fun X9 hX9 => zx_out B htab (xb_inl hX2 hX9) zid (Nat.le_of_ble_eq_true rfl) (Nat.le_of_ble_eq_true rfl)) (fun v9 u2 hv9 => ?_)
  obtain ⟨hu2, rfl⟩ := hv9
  have hE3002 : (if (m_X0_findWire c x (zn y)) = (-1) then (.inl "java/util/NoSuchElementException") else (.inr ((m_X0_removeWire c (zn y) (zn (m_X0_findWire c x (zn y)))).1, (m_X0_removeWire c (zn y) (zn (m_X0_findWire c x (zn y)))).2)) : String ⊕ (Int32 × (Nat → Nat → Int32))) = m_X6_disconnect c x y := by have h9 := xb_inr hX2 hu2; exact h9
  refine zv_st (st' := []) rfl ?_
  have hny := rn_ok hg hu2
  have hby : zn y < 10 := by have := (show zn (c 1 0) ≤ 10 from hg 1 0); omega
  refine zv_aload_n (pc := 10) B 0 rfl dX6_disconnect_10 ?_
  refine zv_get (pc := 11) (v := .ref (b + 1)) B (zat (by decide) (z0 _ _ _)) cl6 inX6 0 (by decide) wf_X6_10 rfl dX6_disconnect_11 ?_
  refine zv_iload_n (pc := 14) B 1 rfl dX6_disconnect_14 ?_
  refine zv_iload_n (pc := 15) B 2 rfl dX6_disconnect_15 ?_
  refine zv_st (st' := [.int (nI (zn y)), .int x, .ref (b + 1)]) (by rw [← zn_eq y]) ?_
  refine zv_callV (pc := 16) (As := [.int x, .int (nI (zn y))]) (rest := []) B (k_X0_findWire l E b _ _ _ _  x hby hg) (zcwV 2 0 B wm_X6_98 wi_X0_findWire wv_X0_findWire wn_X0 wcode_X0_findWire rfl (by decide +kernel) ⟨(Nat.le_of_ble_eq_true rfl), (Nat.le_of_ble_eq_true rfl)⟩) rfl (zrecv B (zat (by decide) (z1 _ _ _)) cl0) zid rfl (Nat.le_of_ble_eq_true rfl) dX6_disconnect_16 ⟨(Nat.le_of_ble_eq_true rfl), (Nat.le_of_ble_eq_true rfl)⟩ (fun v9 u9 hv9 => ?_)
  subst hv9
  refine zv_st (st' := [.int (m_X0_findWire c x (zn y))]) rfl ?_
  refine zv_istore_n (pc := 19) (L' := [(3, .int (m_X0_findWire c x (zn y))), (0, .ref (b + 0)), (1, .int x), (2, .int y)]) B (by decide) rfl dX6_disconnect_19 ?_
  refine zv_iload_n (pc := 20) B 0 rfl dX6_disconnect_20 ?_
  refine zv_iconst (pc := 21) (v := (-1)) B rfl dX6_disconnect_21 ?_
  refine zv_icmp_ne (pc := 22) (tgt := 35) B dX6_disconnect_22 rfl (fun h3 => ?_) (fun h3 => ?_)
  · refine zv_aload_n (pc := 35) B 1 rfl dX6_disconnect_35 ?_
    refine zv_get (pc := 36) (v := .ref (b + 1)) B (zat (by decide) (z0 _ _ _)) cl6 inX6 0 (by decide) wf_X6_10 rfl dX6_disconnect_36 ?_
    refine zv_iload_n (pc := 39) B 3 rfl dX6_disconnect_39 ?_
    refine zv_iload_n (pc := 40) B 0 rfl dX6_disconnect_40 ?_
    refine zv_st (st' := [.int (nI (zn (m_X0_findWire c x (zn y)))), .int (nI (zn y)), .ref (b + 1)]) (by rw [← zn_eq y, ← zn_eq (m_X0_findWire c x (zn y))]) ?_
    refine zv_callV (pc := 41) (As := [.int (nI (zn y)), .int (nI (zn (m_X0_findWire c x (zn y))))]) (rest := []) B (k_X0_removeWire l E b _ _ _ _  hby ((fw_lt hg _).resolve_left h3) hg) (zcwV 2 4 B wm_X6_132 wi_X0_removeWire wv_X0_removeWire wn_X0 wcode_X0_removeWire rfl (by decide +kernel) ⟨(Nat.le_of_ble_eq_true rfl), (Nat.le_of_ble_eq_true rfl)⟩) rfl (zrecv B (zat (by decide) (z1 _ _ _)) cl0) zid rfl (Nat.le_of_ble_eq_true rfl) dX6_disconnect_41 ⟨(Nat.le_of_ble_eq_true rfl), (Nat.le_of_ble_eq_true rfl)⟩ (fun v9 u9 hv9 => ?_)
    obtain ⟨rfl, hF2004, hg2004⟩ := hv9
    refine zv_st (st' := [.int ((m_X0_removeWire c (zn y) (zn (m_X0_findWire c x (zn y)))).1)]) rfl ?_
    have hE5 : (.inr ((m_X0_removeWire c (zn y) (zn (m_X0_findWire c x (zn y)))).1, (m_X0_removeWire c (zn y) (zn (m_X0_findWire c x (zn y)))).2) : String ⊕ (Int32 × (Nat → Nat → Int32))) = m_X6_disconnect c x y := (Eq.trans (by rw [if_neg h3]) hE3002)
    exact zx_iret (pc := 44) B ((m_X0_removeWire c (zn y) (zn (m_X0_findWire c x (zn y)))).1) hr (fun H hP => ⟨((m_X0_removeWire c (zn y) (zn (m_X0_findWire c x (zn y)))).1, (m_X0_removeWire c (zn y) (zn (m_X0_findWire c x (zn y)))).2), ⟨hE5.symm, rfl, (zfr.call zfr.refl hF2004 (by omega)), hg2004⟩, hP⟩) (Nat.le_of_ble_eq_true rfl) (Nat.le_of_ble_eq_true rfl) dX6_disconnect_44
  · have hE6 : (.inl "java/util/NoSuchElementException" : String ⊕ (Int32 × (Nat → Nat → Int32))) = m_X6_disconnect c x y := (Eq.trans (by rw [if_pos h3]) hE3002)
    exact zx_throwN (pc := 25) (j := 3) B hlf htab rfl hE6.symm dX6_disconnect_25 dX6_disconnect_28 dX6_disconnect_29 dX6_disconnect_31 dX6_disconnect_34 (Nat.le_of_ble_eq_true rfl) (Nat.le_of_ble_eq_true rfl) (Nat.le_of_ble_eq_true rfl) (Nat.le_of_ble_eq_true rfl) (Nat.le_of_ble_eq_true rfl) (Nat.le_of_ble_eq_true rfl) (fun H H1 h hq => zH.kept H H1 h hq)

def m_X6_setGain (c : Nat → Nat → Int32) (x y : Int32) : String ⊕ (Int32 × (Nat → Nat → Int32)) := xb (m_X6_refuseNoNode c x) (fun u1 => if (c 2 (zn x)) = 103 then (xb (m_X6_refuseOutside y (-200) 200) (fun u3 => .inr (c 3 (zn x), zup c 3 (zn x) y))) else (.inl "java/lang/UnsupportedOperationException"))
set_option maxRecDepth 100000 in
set_option maxHeartbeats 4000000 in
theorem k_X6_setGain (l : Launch) (E : zE) (b : Nat) (c : Nat → Nat → Int32) (w : Nat → Int64) (en : Nat → Nat) (ea : Nat → Nat → Int32) (x y : Int32) (hg : zG c) (hlf : l.stackTraces = false) : zX l yX6_setGain (.code yX6_setGain cX6_setGain 4 (some .int) :: zAll) (zRm 7 2 12) E b [.ref (b + 0), .int x, .int y] (zH E b c w en ea) (fun v9 (u9 : Int32 × (Nat → Nat → Int32)) => (m_X6_setGain c x y) = .inr u9 ∧ v9 = some (.int u9.1) ∧ zfr 3 4 3 3 c u9.2 ∧ zG u9.2) (fun (u9 : Int32 × (Nat → Nat → Int32)) => zH E b u9.2 w en ea) (fun X9 => (m_X6_setGain c x y) = .inl X9) 2 12 := by
  refine zX_of "ToneGraph" (by decide) rfl rfl (Nat.le_of_ble_eq_true rfl) (L0 := [(0, .ref (b + 0)), (1, .int x), (2, .int y)]) rfl ?_
  intro p e s m args below meth c9 B hr htab
  refine zv_aload_n (pc := 0) B 0 rfl dX6_setGain_0 ?_
  refine zv_iload_n (pc := 1) B 1 rfl dX6_setGain_1 ?_
  have hX1 : (xb (m_X6_refuseNoNode c x) (fun u1 => if (c 2 (zn x)) = 103 then (xb (m_X6_refuseOutside y (-200) 200) (fun u3 => .inr (c 3 (zn x), zup c 3 (zn x) y))) else (.inl "java/lang/UnsupportedOperationException")) : String ⊕ (Int32 × (Nat → Nat → Int32))) = m_X6_setGain c x y := (by unfold m_X6_setGain; rfl)
  refine zv_callVX (pc := 2) (As := [.int x]) (rest := []) B (k_X6_refuseNoNode l E b _ _ _ _  x hg hlf) (zcwV 1 6 B wm_X6_87 wi_X6_refuseNoNode wv_X6_refuseNoNode wn_X6 wcode_X6_refuseNoNode rfl (by decide +kernel) ⟨(Nat.le_of_ble_eq_true rfl), (Nat.le_of_ble_eq_true rfl)⟩) rfl (zrecv B (zat (by decide) (z0 _ _ _)) cl6) zid rfl (Nat.le_of_ble_eq_true rfl) dX6_setGain_2 ⟨(Nat.le_of_ble_eq_true rfl), (Nat.le_of_ble_eq_true rfl)⟩ (fun X9 hX9 => zx_out B htab (xb_inl hX1 hX9) zid (Nat.le_of_ble_eq_true rfl) (Nat.le_of_ble_eq_true rfl)) (fun v9 u1 hv9 => ?_)
  obtain ⟨hu1, rfl⟩ := hv9
  have hE3001 : (if (c 2 (zn x)) = 103 then (xb (m_X6_refuseOutside y (-200) 200) (fun u3 => .inr (c 3 (zn x), zup c 3 (zn x) y))) else (.inl "java/lang/UnsupportedOperationException") : String ⊕ (Int32 × (Nat → Nat → Int32))) = m_X6_setGain c x y := by have h9 := xb_inr hX1 hu1; exact h9
  refine zv_st (st' := []) rfl ?_
  have hnx := rn_ok hg hu1
  have hbx : zn x < 10 := by have := (show zn (c 1 0) ≤ 10 from hg 1 0); omega
  refine zv_aload_n (pc := 5) B 0 rfl dX6_setGain_5 ?_
  refine zv_get (pc := 6) (v := .ref (b + 1)) B (zat (by decide) (z0 _ _ _)) cl6 inX6 0 (by decide) wf_X6_10 rfl dX6_setGain_6 ?_
  refine zv_get (pc := 9) (v := .ref (b + 2)) B (zat (by decide) (z1 _ _ _)) cl0 inX0 2 (by decide) wf_X6_110 rfl dX6_setGain_9 ?_
  refine zv_iload_n (pc := 12) B 1 rfl dX6_setGain_12 ?_
  refine zv_cald (pc := 13) (jj := (zn x)) B (zat (by decide) (z2 _ _ _)) (zn_eq x) hbx (by decide) dX6_setGain_13 ?_
  refine zv_bipush (pc := 14) (v := 103) B rfl dX6_setGain_14 ?_
  refine zv_icmp_eq (pc := 16) (tgt := 29) B dX6_setGain_16 rfl (fun h2 => ?_) (fun h2 => ?_)
  · refine zv_iload_n (pc := 29) B 2 rfl dX6_setGain_29 ?_
    refine zv_sipush (pc := 30) (v := (-200)) B rfl dX6_setGain_30 ?_
    refine zv_sipush (pc := 33) (v := 200) B rfl dX6_setGain_33 ?_
    have hX3 : (xb (m_X6_refuseOutside y (-200) 200) (fun u3 => .inr (c 3 (zn x), zup c 3 (zn x) y)) : String ⊕ (Int32 × (Nat → Nat → Int32))) = m_X6_setGain c x y := (Eq.trans (by rw [if_pos h2]) hE3001)
    refine zv_callSX (pc := 36) (As := [.int y, .int (-200), .int 200]) (rest := []) B (k_X6_refuseOutside l E b _ _ _ _  y (-200) 200 hlf) (zcwS 3 6 B wm_X6_55 ws_X6_refuseOutside wn_X6 wcode_X6_refuseOutside (by decide +kernel) ⟨(Nat.le_of_ble_eq_true rfl), (Nat.le_of_ble_eq_true rfl)⟩) rfl zid rfl (Nat.le_of_ble_eq_true rfl) dX6_setGain_36 ⟨(Nat.le_of_ble_eq_true rfl), (Nat.le_of_ble_eq_true rfl)⟩ (fun X9 hX9 => zx_out B htab (xb_inl hX3 hX9) zid (Nat.le_of_ble_eq_true rfl) (Nat.le_of_ble_eq_true rfl)) (fun v9 u3 hv9 => ?_)
    obtain ⟨hu3, rfl⟩ := hv9
    have hE3003 : (.inr (c 3 (zn x), zup c 3 (zn x) y) : String ⊕ (Int32 × (Nat → Nat → Int32))) = m_X6_setGain c x y := by have h9 := xb_inr hX3 hu3; exact h9
    refine zv_st (st' := []) rfl ?_
    refine zv_aload_n (pc := 39) B 0 rfl dX6_setGain_39 ?_
    refine zv_get (pc := 40) (v := .ref (b + 1)) B (zat (by decide) (z0 _ _ _)) cl6 inX6 0 (by decide) wf_X6_10 rfl dX6_setGain_40 ?_
    refine zv_get (pc := 43) (v := .ref (b + 3)) B (zat (by decide) (z1 _ _ _)) cl0 inX0 3 (by decide) wf_X6_66 rfl dX6_setGain_43 ?_
    refine zv_iload_n (pc := 46) B 1 rfl dX6_setGain_46 ?_
    refine zv_iald (pc := 47) (jj := (zn x)) B (zat (by decide) (z3 _ _ _)) (zn_eq x) hbx (by decide) dX6_setGain_47 ?_
    refine zv_istore_n (pc := 48) (L' := [(3, .int (c 3 (zn x))), (0, .ref (b + 0)), (1, .int x), (2, .int y)]) B (by decide) rfl dX6_setGain_48 ?_
    refine zv_aload_n (pc := 49) B 1 rfl dX6_setGain_49 ?_
    refine zv_get (pc := 50) (v := .ref (b + 1)) B (zat (by decide) (z0 _ _ _)) cl6 inX6 0 (by decide) wf_X6_10 rfl dX6_setGain_50 ?_
    refine zv_get (pc := 53) (v := .ref (b + 3)) B (zat (by decide) (z1 _ _ _)) cl0 inX0 3 (by decide) wf_X6_66 rfl dX6_setGain_53 ?_
    refine zv_iload_n (pc := 56) B 2 rfl dX6_setGain_56 ?_
    refine zv_iload_n (pc := 57) B 3 rfl dX6_setGain_57 ?_
    refine zs_iast (pc := 58) (jj := (zn x)) B zid (by decide) rfl (fun x w e => z3 x w e) (zn_eq x) hbx (by decide) dX6_setGain_58 ?_
    refine zv_iload_n (pc := 59) B 0 rfl dX6_setGain_59 ?_
    have hE4 : (.inr (c 3 (zn x), zup c 3 (zn x) y) : String ⊕ (Int32 × (Nat → Nat → Int32))) = m_X6_setGain c x y := hE3003
    exact zx_iret (pc := 60) B (c 3 (zn x)) hr (fun H hP => ⟨(c 3 (zn x), zup c 3 (zn x) y), ⟨hE4.symm, rfl, (zfr.up zfr.refl (by omega)), (zG.free hg (by unfold zfree; omega))⟩, hP⟩) (Nat.le_of_ble_eq_true rfl) (Nat.le_of_ble_eq_true rfl) dX6_setGain_60
  · have hE5 : (.inl "java/lang/UnsupportedOperationException" : String ⊕ (Int32 × (Nat → Nat → Int32))) = m_X6_setGain c x y := (Eq.trans (by rw [if_neg h2]) hE3001)
    exact zx_throw (pc := 19) (j := 4) B hlf htab (by decide +kernel) (by decide +kernel) wc_X6_118 wn_UnsupportedOperationException rfl zthr122 hE5.symm dX6_setGain_19 dX6_setGain_22 dX6_setGain_23 dX6_setGain_25 dX6_setGain_28 (Nat.le_of_ble_eq_true rfl) (Nat.le_of_ble_eq_true rfl) (Nat.le_of_ble_eq_true rfl) (Nat.le_of_ble_eq_true rfl) (Nat.le_of_ble_eq_true rfl) (Nat.le_of_ble_eq_true rfl) (fun H H1 h hq => zH.kept H H1 h hq)

def m_X6_setOutput (c : Nat → Nat → Int32) (x : Int32) : String ⊕ (Int32 × (Nat → Nat → Int32)) := xb (m_X6_refuseNoNode c x) (fun u1 => .inr (c 1 1, zup c 1 1 x))
set_option maxRecDepth 100000 in
set_option maxHeartbeats 4000000 in
theorem k_X6_setOutput (l : Launch) (E : zE) (b : Nat) (c : Nat → Nat → Int32) (w : Nat → Int64) (en : Nat → Nat) (ea : Nat → Nat → Int32) (x : Int32) (hg : zG c) (hlf : l.stackTraces = false) : zX l yX6_setOutput (.code yX6_setOutput cX6_setOutput 3 (some .int) :: zAll) (zRm 7 1 6) E b [.ref (b + 0), .int x] (zH E b c w en ea) (fun v9 (u9 : Int32 × (Nat → Nat → Int32)) => (m_X6_setOutput c x) = .inr u9 ∧ v9 = some (.int u9.1) ∧ zfr 1 2 1 1 c u9.2 ∧ zG u9.2) (fun (u9 : Int32 × (Nat → Nat → Int32)) => zH E b u9.2 w en ea) (fun X9 => (m_X6_setOutput c x) = .inl X9) 1 6 := by
  refine zX_of "ToneGraph" (by decide) rfl rfl (Nat.le_of_ble_eq_true rfl) (L0 := [(0, .ref (b + 0)), (1, .int x)]) rfl ?_
  intro p e s m args below meth c9 B hr htab
  refine zv_aload_n (pc := 0) B 0 rfl dX6_setOutput_0 ?_
  refine zv_iload_n (pc := 1) B 1 rfl dX6_setOutput_1 ?_
  have hX1 : (xb (m_X6_refuseNoNode c x) (fun u1 => .inr (c 1 1, zup c 1 1 x)) : String ⊕ (Int32 × (Nat → Nat → Int32))) = m_X6_setOutput c x := (by unfold m_X6_setOutput; rfl)
  refine zv_callVX (pc := 2) (As := [.int x]) (rest := []) B (k_X6_refuseNoNode l E b _ _ _ _  x hg hlf) (zcwV 1 6 B wm_X6_87 wi_X6_refuseNoNode wv_X6_refuseNoNode wn_X6 wcode_X6_refuseNoNode rfl (by decide +kernel) ⟨(Nat.le_of_ble_eq_true rfl), (Nat.le_of_ble_eq_true rfl)⟩) rfl (zrecv B (zat (by decide) (z0 _ _ _)) cl6) zid rfl (Nat.le_of_ble_eq_true rfl) dX6_setOutput_2 ⟨(Nat.le_of_ble_eq_true rfl), (Nat.le_of_ble_eq_true rfl)⟩ (fun X9 hX9 => zx_out B htab (xb_inl hX1 hX9) zid (Nat.le_of_ble_eq_true rfl) (Nat.le_of_ble_eq_true rfl)) (fun v9 u1 hv9 => ?_)
  obtain ⟨hu1, rfl⟩ := hv9
  have hE3001 : (.inr (c 1 1, zup c 1 1 x) : String ⊕ (Int32 × (Nat → Nat → Int32))) = m_X6_setOutput c x := by have h9 := xb_inr hX1 hu1; exact h9
  refine zv_st (st' := []) rfl ?_
  have hnx := rn_ok hg hu1
  have hbx : zn x < 10 := by have := (show zn (c 1 0) ≤ 10 from hg 1 0); omega
  refine zv_aload_n (pc := 5) B 0 rfl dX6_setOutput_5 ?_
  refine zv_get (pc := 6) (v := .ref (b + 1)) B (zat (by decide) (z0 _ _ _)) cl6 inX6 0 (by decide) wf_X6_10 rfl dX6_setOutput_6 ?_
  refine zv_get (pc := 9) (v := .int (c 1 1)) B (zat (by decide) (z1 _ _ _)) cl0 inX0 1 (by decide) wf_X6_137 rfl dX6_setOutput_9 ?_
  refine zv_istore_n (pc := 12) (L' := [(2, .int (c 1 1)), (0, .ref (b + 0)), (1, .int x)]) B (by decide) rfl dX6_setOutput_12 ?_
  refine zv_aload_n (pc := 13) B 1 rfl dX6_setOutput_13 ?_
  refine zv_get (pc := 14) (v := .ref (b + 1)) B (zat (by decide) (z0 _ _ _)) cl6 inX6 0 (by decide) wf_X6_10 rfl dX6_setOutput_14 ?_
  refine zv_iload_n (pc := 17) B 2 rfl dX6_setOutput_17 ?_
  refine zs_put9 (pc := 18) (f := 1) (F := fun x9 => [.int (x9 0), .int (x9 1), .ref (b + 2), .ref (b + 3), .ref (b + 4), .ref (b + 5), .ref (b + 6), .ref (b + 7), .ref (b + 8), .ref (b + 9), .ref (b + 10), .ref (b + 11), .ref (b + 22), .ref (b + 33)]) B zid (by decide) rfl (fun x => z1 x _ _) cl0 inX0 tyX0 tyX0_ok nmX0 (by decide) wf_X6_137 rfl rfl rfl rfl (Nat.le_of_ble_eq_true rfl) (fun _ _ => rfl) dX6_setOutput_18 ?_
  refine zv_iload_n (pc := 21) B 0 rfl dX6_setOutput_21 ?_
  have hE2 : (.inr (c 1 1, zup c 1 1 x) : String ⊕ (Int32 × (Nat → Nat → Int32))) = m_X6_setOutput c x := hE3001
  exact zx_iret (pc := 22) B (c 1 1) hr (fun H hP => ⟨(c 1 1, zup c 1 1 x), ⟨hE2.symm, rfl, (zfr.up zfr.refl (by omega)), (zG.up hg (show zn _ ≤ 9 from (by have h8 := hbx; omega)))⟩, hP⟩) (Nat.le_of_ble_eq_true rfl) (Nat.le_of_ble_eq_true rfl) dX6_setOutput_22

def m_X6_nodes (c : Nat → Nat → Int32) : Int32 := c 1 0
set_option maxRecDepth 100000 in
set_option maxHeartbeats 4000000 in
theorem k_X6_nodes (l : Launch) (E : zE) (b : Nat) (c : Nat → Nat → Int32) (w : Nat → Int64) (en : Nat → Nat) (ea : Nat → Nat → Int32)  (hg : zG c) : zM l yX6_nodes (.code yX6_nodes cX6_nodes 1 (some .int) :: zAll) (zRm 0 0 0) E b [.ref (b + 0)] (zH E b c w en ea) (fun v9 (_ : Unit) => v9 = some (.int (m_X6_nodes c))) (fun _ => zH E b c w en ea) 0 0 := by
  refine zM_of "ToneGraph" (by decide) rfl rfl (Nat.le_of_ble_eq_true rfl) (L0 := [(0, .ref (b + 0))]) rfl ?_
  intro p e s m args below meth c9 B hr hname
  refine zv_aload_n (pc := 0) B 0 rfl dX6_nodes_0 ?_
  refine zv_get (pc := 1) (v := .ref (b + 1)) B (zat (by decide) (z0 _ _ _)) cl6 inX6 0 (by decide) wf_X6_10 rfl dX6_nodes_1 ?_
  refine zv_get (pc := 4) (v := .int (c 1 0)) B (zat (by decide) (z1 _ _ _)) cl0 inX0 0 (by decide) wf_X6_141 rfl dX6_nodes_4 ?_
  have hE1 : c 1 0 = m_X6_nodes c := (by unfold m_X6_nodes; rfl)
  exact zv_iret (pc := 7) B (c 1 0) hr (fun H hP => ⟨(), (congrArg (fun z => some (Value.int z)) hE1), hP⟩) (Nat.le_of_ble_eq_true rfl) (Nat.le_of_ble_eq_true rfl) dX6_nodes_7

def m_X6_kindOf (c : Nat → Nat → Int32) (x : Int32) : String ⊕ Int32 := xb (m_X6_refuseNoNode c x) (fun u1 => .inr (c 2 (zn x)))
set_option maxRecDepth 100000 in
set_option maxHeartbeats 4000000 in
theorem k_X6_kindOf (l : Launch) (E : zE) (b : Nat) (c : Nat → Nat → Int32) (w : Nat → Int64) (en : Nat → Nat) (ea : Nat → Nat → Int32) (x : Int32) (hg : zG c) (hlf : l.stackTraces = false) : zX l yX6_kindOf (.code yX6_kindOf cX6_kindOf 2 (some .char) :: zAll) (zRm 7 1 6) E b [.ref (b + 0), .int x] (zH E b c w en ea) (fun v9 (u9 : Int32) => (m_X6_kindOf c x) = .inr u9 ∧ v9 = some (.int u9)) (fun (u9 : Int32) => zH E b c w en ea) (fun X9 => (m_X6_kindOf c x) = .inl X9) 1 6 := by
  refine zX_of "ToneGraph" (by decide) rfl rfl (Nat.le_of_ble_eq_true rfl) (L0 := [(0, .ref (b + 0)), (1, .int x)]) rfl ?_
  intro p e s m args below meth c9 B hr htab
  refine zv_aload_n (pc := 0) B 0 rfl dX6_kindOf_0 ?_
  refine zv_iload_n (pc := 1) B 1 rfl dX6_kindOf_1 ?_
  have hX1 : (xb (m_X6_refuseNoNode c x) (fun u1 => .inr (c 2 (zn x))) : String ⊕ Int32) = m_X6_kindOf c x := (by unfold m_X6_kindOf; rfl)
  refine zv_callVX (pc := 2) (As := [.int x]) (rest := []) B (k_X6_refuseNoNode l E b _ _ _ _  x hg hlf) (zcwV 1 6 B wm_X6_87 wi_X6_refuseNoNode wv_X6_refuseNoNode wn_X6 wcode_X6_refuseNoNode rfl (by decide +kernel) ⟨(Nat.le_of_ble_eq_true rfl), (Nat.le_of_ble_eq_true rfl)⟩) rfl (zrecv B (zat (by decide) (z0 _ _ _)) cl6) zid rfl (Nat.le_of_ble_eq_true rfl) dX6_kindOf_2 ⟨(Nat.le_of_ble_eq_true rfl), (Nat.le_of_ble_eq_true rfl)⟩ (fun X9 hX9 => zx_out B htab (xb_inl hX1 hX9) zid (Nat.le_of_ble_eq_true rfl) (Nat.le_of_ble_eq_true rfl)) (fun v9 u1 hv9 => ?_)
  obtain ⟨hu1, rfl⟩ := hv9
  have hE3001 : (.inr (c 2 (zn x)) : String ⊕ Int32) = m_X6_kindOf c x := by have h9 := xb_inr hX1 hu1; exact h9
  refine zv_st (st' := []) rfl ?_
  have hnx := rn_ok hg hu1
  have hbx : zn x < 10 := by have := (show zn (c 1 0) ≤ 10 from hg 1 0); omega
  refine zv_aload_n (pc := 5) B 0 rfl dX6_kindOf_5 ?_
  refine zv_get (pc := 6) (v := .ref (b + 1)) B (zat (by decide) (z0 _ _ _)) cl6 inX6 0 (by decide) wf_X6_10 rfl dX6_kindOf_6 ?_
  refine zv_get (pc := 9) (v := .ref (b + 2)) B (zat (by decide) (z1 _ _ _)) cl0 inX0 2 (by decide) wf_X6_110 rfl dX6_kindOf_9 ?_
  refine zv_iload_n (pc := 12) B 1 rfl dX6_kindOf_12 ?_
  refine zv_cald (pc := 13) (jj := (zn x)) B (zat (by decide) (z2 _ _ _)) (zn_eq x) hbx (by decide) dX6_kindOf_13 ?_
  have hE2 : (.inr (c 2 (zn x)) : String ⊕ Int32) = m_X6_kindOf c x := hE3001
  exact zx_zret (pc := 14) B (c 2 (zn x)) (znar_c (show zn _ ≤ 65535 from hg 2 (zn x))) hr (fun H hP => ⟨c 2 (zn x), ⟨hE2.symm, rfl⟩, hP⟩) (Nat.le_of_ble_eq_true rfl) (Nat.le_of_ble_eq_true rfl) dX6_kindOf_14

def m_X6_wires (c : Nat → Nat → Int32) (x : Int32) : String ⊕ Int32 := xb (m_X6_refuseNoNode c x) (fun u1 => .inr (c 10 (zn x)))
set_option maxRecDepth 100000 in
set_option maxHeartbeats 4000000 in
theorem k_X6_wires (l : Launch) (E : zE) (b : Nat) (c : Nat → Nat → Int32) (w : Nat → Int64) (en : Nat → Nat) (ea : Nat → Nat → Int32) (x : Int32) (hg : zG c) (hlf : l.stackTraces = false) : zX l yX6_wires (.code yX6_wires cX6_wires 2 (some .int) :: zAll) (zRm 7 1 6) E b [.ref (b + 0), .int x] (zH E b c w en ea) (fun v9 (u9 : Int32) => (m_X6_wires c x) = .inr u9 ∧ v9 = some (.int u9)) (fun (u9 : Int32) => zH E b c w en ea) (fun X9 => (m_X6_wires c x) = .inl X9) 1 6 := by
  refine zX_of "ToneGraph" (by decide) rfl rfl (Nat.le_of_ble_eq_true rfl) (L0 := [(0, .ref (b + 0)), (1, .int x)]) rfl ?_
  intro p e s m args below meth c9 B hr htab
  refine zv_aload_n (pc := 0) B 0 rfl dX6_wires_0 ?_
  refine zv_iload_n (pc := 1) B 1 rfl dX6_wires_1 ?_
  have hX1 : (xb (m_X6_refuseNoNode c x) (fun u1 => .inr (c 10 (zn x))) : String ⊕ Int32) = m_X6_wires c x := (by unfold m_X6_wires; rfl)
  refine zv_callVX (pc := 2) (As := [.int x]) (rest := []) B (k_X6_refuseNoNode l E b _ _ _ _  x hg hlf) (zcwV 1 6 B wm_X6_87 wi_X6_refuseNoNode wv_X6_refuseNoNode wn_X6 wcode_X6_refuseNoNode rfl (by decide +kernel) ⟨(Nat.le_of_ble_eq_true rfl), (Nat.le_of_ble_eq_true rfl)⟩) rfl (zrecv B (zat (by decide) (z0 _ _ _)) cl6) zid rfl (Nat.le_of_ble_eq_true rfl) dX6_wires_2 ⟨(Nat.le_of_ble_eq_true rfl), (Nat.le_of_ble_eq_true rfl)⟩ (fun X9 hX9 => zx_out B htab (xb_inl hX1 hX9) zid (Nat.le_of_ble_eq_true rfl) (Nat.le_of_ble_eq_true rfl)) (fun v9 u1 hv9 => ?_)
  obtain ⟨hu1, rfl⟩ := hv9
  have hE3001 : (.inr (c 10 (zn x)) : String ⊕ Int32) = m_X6_wires c x := by have h9 := xb_inr hX1 hu1; exact h9
  refine zv_st (st' := []) rfl ?_
  have hnx := rn_ok hg hu1
  have hbx : zn x < 10 := by have := (show zn (c 1 0) ≤ 10 from hg 1 0); omega
  refine zv_aload_n (pc := 5) B 0 rfl dX6_wires_5 ?_
  refine zv_get (pc := 6) (v := .ref (b + 1)) B (zat (by decide) (z0 _ _ _)) cl6 inX6 0 (by decide) wf_X6_10 rfl dX6_wires_6 ?_
  refine zv_get (pc := 9) (v := .ref (b + 10)) B (zat (by decide) (z1 _ _ _)) cl0 inX0 10 (by decide) wf_X6_102 rfl dX6_wires_9 ?_
  refine zv_iload_n (pc := 12) B 1 rfl dX6_wires_12 ?_
  refine zv_iald (pc := 13) (jj := (zn x)) B (zat (by decide) (z10 _ _ _)) (zn_eq x) hbx (by decide) dX6_wires_13 ?_
  have hE2 : (.inr (c 10 (zn x)) : String ⊕ Int32) = m_X6_wires c x := hE3001
  exact zx_iret (pc := 14) B (c 10 (zn x)) hr (fun H hP => ⟨c 10 (zn x), ⟨hE2.symm, rfl⟩, hP⟩) (Nat.le_of_ble_eq_true rfl) (Nat.le_of_ble_eq_true rfl) dX6_wires_14

def m_X6_wireFrom (c : Nat → Nat → Int32) (x y : Int32) : String ⊕ Int32 := xb (m_X6_refuseNoNode c x) (fun u1 => xb (m_X6_refuseNoWire c (zn x) y) (fun u2 => .inr (c (12 + (zn x)) (zn y))))
set_option maxRecDepth 100000 in
set_option maxHeartbeats 4000000 in
theorem k_X6_wireFrom (l : Launch) (E : zE) (b : Nat) (c : Nat → Nat → Int32) (w : Nat → Int64) (en : Nat → Nat) (ea : Nat → Nat → Int32) (x y : Int32) (hg : zG c) (hlf : l.stackTraces = false) : zX l yX6_wireFrom (.code yX6_wireFrom cX6_wireFrom 3 (some .int) :: zAll) (zRm 7 2 12) E b [.ref (b + 0), .int x, .int y] (zH E b c w en ea) (fun v9 (u9 : Int32) => (m_X6_wireFrom c x y) = .inr u9 ∧ v9 = some (.int u9)) (fun (u9 : Int32) => zH E b c w en ea) (fun X9 => (m_X6_wireFrom c x y) = .inl X9) 2 12 := by
  refine zX_of "ToneGraph" (by decide) rfl rfl (Nat.le_of_ble_eq_true rfl) (L0 := [(0, .ref (b + 0)), (1, .int x), (2, .int y)]) rfl ?_
  intro p e s m args below meth c9 B hr htab
  refine zv_aload_n (pc := 0) B 0 rfl dX6_wireFrom_0 ?_
  refine zv_iload_n (pc := 1) B 1 rfl dX6_wireFrom_1 ?_
  have hX1 : (xb (m_X6_refuseNoNode c x) (fun u1 => xb (m_X6_refuseNoWire c (zn x) y) (fun u2 => .inr (c (12 + (zn x)) (zn y)))) : String ⊕ Int32) = m_X6_wireFrom c x y := (by unfold m_X6_wireFrom; rfl)
  refine zv_callVX (pc := 2) (As := [.int x]) (rest := []) B (k_X6_refuseNoNode l E b _ _ _ _  x hg hlf) (zcwV 1 6 B wm_X6_87 wi_X6_refuseNoNode wv_X6_refuseNoNode wn_X6 wcode_X6_refuseNoNode rfl (by decide +kernel) ⟨(Nat.le_of_ble_eq_true rfl), (Nat.le_of_ble_eq_true rfl)⟩) rfl (zrecv B (zat (by decide) (z0 _ _ _)) cl6) zid rfl (Nat.le_of_ble_eq_true rfl) dX6_wireFrom_2 ⟨(Nat.le_of_ble_eq_true rfl), (Nat.le_of_ble_eq_true rfl)⟩ (fun X9 hX9 => zx_out B htab (xb_inl hX1 hX9) zid (Nat.le_of_ble_eq_true rfl) (Nat.le_of_ble_eq_true rfl)) (fun v9 u1 hv9 => ?_)
  obtain ⟨hu1, rfl⟩ := hv9
  have hE3001 : (xb (m_X6_refuseNoWire c (zn x) y) (fun u2 => .inr (c (12 + (zn x)) (zn y))) : String ⊕ Int32) = m_X6_wireFrom c x y := by have h9 := xb_inr hX1 hu1; exact h9
  refine zv_st (st' := []) rfl ?_
  have hnx := rn_ok hg hu1
  have hbx : zn x < 10 := by have := (show zn (c 1 0) ≤ 10 from hg 1 0); omega
  refine zv_aload_n (pc := 5) B 0 rfl dX6_wireFrom_5 ?_
  refine zv_iload_n (pc := 6) B 1 rfl dX6_wireFrom_6 ?_
  refine zv_iload_n (pc := 7) B 2 rfl dX6_wireFrom_7 ?_
  refine zv_st (st' := [.int y, .int (nI (zn x)), .ref (b + 0)]) (by rw [← zn_eq x]) ?_
  have hX2 : (xb (m_X6_refuseNoWire c (zn x) y) (fun u2 => .inr (c (12 + (zn x)) (zn y))) : String ⊕ Int32) = m_X6_wireFrom c x y := hE3001
  refine zv_callVX (pc := 8) (As := [.int (nI (zn x)), .int y]) (rest := []) B (k_X6_refuseNoWire l E b _ _ _ _  hbx y hg hlf) (zcwV 2 6 B wm_X6_144 wi_X6_refuseNoWire wv_X6_refuseNoWire wn_X6 wcode_X6_refuseNoWire rfl (by decide +kernel) ⟨(Nat.le_of_ble_eq_true rfl), (Nat.le_of_ble_eq_true rfl)⟩) rfl (zrecv B (zat (by decide) (z0 _ _ _)) cl6) zid rfl (Nat.le_of_ble_eq_true rfl) dX6_wireFrom_8 ⟨(Nat.le_of_ble_eq_true rfl), (Nat.le_of_ble_eq_true rfl)⟩ (fun X9 hX9 => zx_out B htab (xb_inl hX2 hX9) zid (Nat.le_of_ble_eq_true rfl) (Nat.le_of_ble_eq_true rfl)) (fun v9 u2 hv9 => ?_)
  obtain ⟨hu2, rfl⟩ := hv9
  have hE3002 : (.inr (c (12 + (zn x)) (zn y)) : String ⊕ Int32) = m_X6_wireFrom c x y := by have h9 := xb_inr hX2 hu2; exact h9
  refine zv_st (st' := []) rfl ?_
  have hn9 := rw_ok hg hu2
  have hby : zn y < 4 := by have := (show zn (c 10 (zn x)) ≤ 4 from hg 10 _); omega
  refine zv_aload_n (pc := 11) B 0 rfl dX6_wireFrom_11 ?_
  refine zv_get (pc := 12) (v := .ref (b + 1)) B (zat (by decide) (z0 _ _ _)) cl6 inX6 0 (by decide) wf_X6_10 rfl dX6_wireFrom_12 ?_
  refine zv_get (pc := 15) (v := .ref (b + 11)) B (zat (by decide) (z1 _ _ _)) cl0 inX0 11 (by decide) wf_X6_148 rfl dX6_wireFrom_15 ?_
  refine zv_iload_n (pc := 18) B 1 rfl dX6_wireFrom_18 ?_
  refine zv_rald (pc := 19) (jj := (zn x)) (q1 := b + (12 + (zn x))) B (zat (by decide) (z11 _ _ _)) (zn_eq x) hbx (by decide) (if_pos hbx) dX6_wireFrom_19 ?_
  refine zv_iload_n (pc := 20) B 2 rfl dX6_wireFrom_20 ?_
  refine zv_iald (pc := 21) (jj := (zn y)) B (zat (by have h9 : zn x < 10 := hbx; omega) (zsrc hbx _ _ _)) (zn_eq y) hby (by decide) dX6_wireFrom_21 ?_
  have hE3 : (.inr (c (12 + (zn x)) (zn y)) : String ⊕ Int32) = m_X6_wireFrom c x y := hE3002
  exact zx_iret (pc := 22) B (c (12 + (zn x)) (zn y)) hr (fun H hP => ⟨c (12 + (zn x)) (zn y), ⟨hE3.symm, rfl⟩, hP⟩) (Nat.le_of_ble_eq_true rfl) (Nat.le_of_ble_eq_true rfl) dX6_wireFrom_22

def m_X6_wirePercent (c : Nat → Nat → Int32) (x y : Int32) : String ⊕ Int32 := xb (m_X6_refuseNoNode c x) (fun u1 => xb (m_X6_refuseNoWire c (zn x) y) (fun u2 => .inr (c (23 + (zn x)) (zn y))))
set_option maxRecDepth 100000 in
set_option maxHeartbeats 4000000 in
theorem k_X6_wirePercent (l : Launch) (E : zE) (b : Nat) (c : Nat → Nat → Int32) (w : Nat → Int64) (en : Nat → Nat) (ea : Nat → Nat → Int32) (x y : Int32) (hg : zG c) (hlf : l.stackTraces = false) : zX l yX6_wirePercent (.code yX6_wirePercent cX6_wirePercent 3 (some .int) :: zAll) (zRm 7 2 12) E b [.ref (b + 0), .int x, .int y] (zH E b c w en ea) (fun v9 (u9 : Int32) => (m_X6_wirePercent c x y) = .inr u9 ∧ v9 = some (.int u9)) (fun (u9 : Int32) => zH E b c w en ea) (fun X9 => (m_X6_wirePercent c x y) = .inl X9) 2 12 := by
  refine zX_of "ToneGraph" (by decide) rfl rfl (Nat.le_of_ble_eq_true rfl) (L0 := [(0, .ref (b + 0)), (1, .int x), (2, .int y)]) rfl ?_
  intro p e s m args below meth c9 B hr htab
  refine zv_aload_n (pc := 0) B 0 rfl dX6_wirePercent_0 ?_
  refine zv_iload_n (pc := 1) B 1 rfl dX6_wirePercent_1 ?_
  have hX1 : (xb (m_X6_refuseNoNode c x) (fun u1 => xb (m_X6_refuseNoWire c (zn x) y) (fun u2 => .inr (c (23 + (zn x)) (zn y)))) : String ⊕ Int32) = m_X6_wirePercent c x y := (by unfold m_X6_wirePercent; rfl)
  refine zv_callVX (pc := 2) (As := [.int x]) (rest := []) B (k_X6_refuseNoNode l E b _ _ _ _  x hg hlf) (zcwV 1 6 B wm_X6_87 wi_X6_refuseNoNode wv_X6_refuseNoNode wn_X6 wcode_X6_refuseNoNode rfl (by decide +kernel) ⟨(Nat.le_of_ble_eq_true rfl), (Nat.le_of_ble_eq_true rfl)⟩) rfl (zrecv B (zat (by decide) (z0 _ _ _)) cl6) zid rfl (Nat.le_of_ble_eq_true rfl) dX6_wirePercent_2 ⟨(Nat.le_of_ble_eq_true rfl), (Nat.le_of_ble_eq_true rfl)⟩ (fun X9 hX9 => zx_out B htab (xb_inl hX1 hX9) zid (Nat.le_of_ble_eq_true rfl) (Nat.le_of_ble_eq_true rfl)) (fun v9 u1 hv9 => ?_)
  obtain ⟨hu1, rfl⟩ := hv9
  have hE3001 : (xb (m_X6_refuseNoWire c (zn x) y) (fun u2 => .inr (c (23 + (zn x)) (zn y))) : String ⊕ Int32) = m_X6_wirePercent c x y := by have h9 := xb_inr hX1 hu1; exact h9
  refine zv_st (st' := []) rfl ?_
  have hnx := rn_ok hg hu1
  have hbx : zn x < 10 := by have := (show zn (c 1 0) ≤ 10 from hg 1 0); omega
  refine zv_aload_n (pc := 5) B 0 rfl dX6_wirePercent_5 ?_
  refine zv_iload_n (pc := 6) B 1 rfl dX6_wirePercent_6 ?_
  refine zv_iload_n (pc := 7) B 2 rfl dX6_wirePercent_7 ?_
  refine zv_st (st' := [.int y, .int (nI (zn x)), .ref (b + 0)]) (by rw [← zn_eq x]) ?_
  have hX2 : (xb (m_X6_refuseNoWire c (zn x) y) (fun u2 => .inr (c (23 + (zn x)) (zn y))) : String ⊕ Int32) = m_X6_wirePercent c x y := hE3001
  refine zv_callVX (pc := 8) (As := [.int (nI (zn x)), .int y]) (rest := []) B (k_X6_refuseNoWire l E b _ _ _ _  hbx y hg hlf) (zcwV 2 6 B wm_X6_144 wi_X6_refuseNoWire wv_X6_refuseNoWire wn_X6 wcode_X6_refuseNoWire rfl (by decide +kernel) ⟨(Nat.le_of_ble_eq_true rfl), (Nat.le_of_ble_eq_true rfl)⟩) rfl (zrecv B (zat (by decide) (z0 _ _ _)) cl6) zid rfl (Nat.le_of_ble_eq_true rfl) dX6_wirePercent_8 ⟨(Nat.le_of_ble_eq_true rfl), (Nat.le_of_ble_eq_true rfl)⟩ (fun X9 hX9 => zx_out B htab (xb_inl hX2 hX9) zid (Nat.le_of_ble_eq_true rfl) (Nat.le_of_ble_eq_true rfl)) (fun v9 u2 hv9 => ?_)
  obtain ⟨hu2, rfl⟩ := hv9
  have hE3002 : (.inr (c (23 + (zn x)) (zn y)) : String ⊕ Int32) = m_X6_wirePercent c x y := by have h9 := xb_inr hX2 hu2; exact h9
  refine zv_st (st' := []) rfl ?_
  have hn9 := rw_ok hg hu2
  have hby : zn y < 4 := by have := (show zn (c 10 (zn x)) ≤ 4 from hg 10 _); omega
  refine zv_aload_n (pc := 11) B 0 rfl dX6_wirePercent_11 ?_
  refine zv_get (pc := 12) (v := .ref (b + 1)) B (zat (by decide) (z0 _ _ _)) cl6 inX6 0 (by decide) wf_X6_10 rfl dX6_wirePercent_12 ?_
  refine zv_get (pc := 15) (v := .ref (b + 22)) B (zat (by decide) (z1 _ _ _)) cl0 inX0 12 (by decide) wf_X6_152 rfl dX6_wirePercent_15 ?_
  refine zv_iload_n (pc := 18) B 1 rfl dX6_wirePercent_18 ?_
  refine zv_rald (pc := 19) (jj := (zn x)) (q1 := b + (23 + (zn x))) B (zat (by decide) (z22 _ _ _)) (zn_eq x) hbx (by decide) (if_pos hbx) dX6_wirePercent_19 ?_
  refine zv_iload_n (pc := 20) B 2 rfl dX6_wirePercent_20 ?_
  refine zv_iald (pc := 21) (jj := (zn y)) B (zat (by have h9 : zn x < 10 := hbx; omega) (zshr hbx _ _ _)) (zn_eq y) hby (by decide) dX6_wirePercent_21 ?_
  have hE3 : (.inr (c (23 + (zn x)) (zn y)) : String ⊕ Int32) = m_X6_wirePercent c x y := hE3002
  exact zx_iret (pc := 22) B (c (23 + (zn x)) (zn y)) hr (fun H hP => ⟨c (23 + (zn x)) (zn y), ⟨hE3.symm, rfl⟩, hP⟩) (Nat.le_of_ble_eq_true rfl) (Nat.le_of_ble_eq_true rfl) dX6_wirePercent_22

def m_X6_nodeAt (c : Nat → Nat → Int32) (x : Int32) : String ⊕ Int32 := xb (m_X6_refuseNoNode c x) (fun u1 => .inr (c 33 (zn x)))
set_option maxRecDepth 100000 in
set_option maxHeartbeats 4000000 in
theorem k_X6_nodeAt (l : Launch) (E : zE) (b : Nat) (c : Nat → Nat → Int32) (w : Nat → Int64) (en : Nat → Nat) (ea : Nat → Nat → Int32) (x : Int32) (hg : zG c) (hlf : l.stackTraces = false) : zX l yX6_nodeAt (.code yX6_nodeAt cX6_nodeAt 2 (some .int) :: zAll) (zRm 7 1 6) E b [.ref (b + 0), .int x] (zH E b c w en ea) (fun v9 (u9 : Int32) => (m_X6_nodeAt c x) = .inr u9 ∧ v9 = some (.int u9)) (fun (u9 : Int32) => zH E b c w en ea) (fun X9 => (m_X6_nodeAt c x) = .inl X9) 1 6 := by
  refine zX_of "ToneGraph" (by decide) rfl rfl (Nat.le_of_ble_eq_true rfl) (L0 := [(0, .ref (b + 0)), (1, .int x)]) rfl ?_
  intro p e s m args below meth c9 B hr htab
  refine zv_aload_n (pc := 0) B 0 rfl dX6_nodeAt_0 ?_
  refine zv_iload_n (pc := 1) B 1 rfl dX6_nodeAt_1 ?_
  have hX1 : (xb (m_X6_refuseNoNode c x) (fun u1 => .inr (c 33 (zn x))) : String ⊕ Int32) = m_X6_nodeAt c x := (by unfold m_X6_nodeAt; rfl)
  refine zv_callVX (pc := 2) (As := [.int x]) (rest := []) B (k_X6_refuseNoNode l E b _ _ _ _  x hg hlf) (zcwV 1 6 B wm_X6_87 wi_X6_refuseNoNode wv_X6_refuseNoNode wn_X6 wcode_X6_refuseNoNode rfl (by decide +kernel) ⟨(Nat.le_of_ble_eq_true rfl), (Nat.le_of_ble_eq_true rfl)⟩) rfl (zrecv B (zat (by decide) (z0 _ _ _)) cl6) zid rfl (Nat.le_of_ble_eq_true rfl) dX6_nodeAt_2 ⟨(Nat.le_of_ble_eq_true rfl), (Nat.le_of_ble_eq_true rfl)⟩ (fun X9 hX9 => zx_out B htab (xb_inl hX1 hX9) zid (Nat.le_of_ble_eq_true rfl) (Nat.le_of_ble_eq_true rfl)) (fun v9 u1 hv9 => ?_)
  obtain ⟨hu1, rfl⟩ := hv9
  have hE3001 : (.inr (c 33 (zn x)) : String ⊕ Int32) = m_X6_nodeAt c x := by have h9 := xb_inr hX1 hu1; exact h9
  refine zv_st (st' := []) rfl ?_
  have hnx := rn_ok hg hu1
  have hbx : zn x < 10 := by have := (show zn (c 1 0) ≤ 10 from hg 1 0); omega
  refine zv_aload_n (pc := 5) B 0 rfl dX6_nodeAt_5 ?_
  refine zv_get (pc := 6) (v := .ref (b + 1)) B (zat (by decide) (z0 _ _ _)) cl6 inX6 0 (by decide) wf_X6_10 rfl dX6_nodeAt_6 ?_
  refine zv_get (pc := 9) (v := .ref (b + 33)) B (zat (by decide) (z1 _ _ _)) cl0 inX0 13 (by decide) wf_X6_155 rfl dX6_nodeAt_9 ?_
  refine zv_iload_n (pc := 12) B 1 rfl dX6_nodeAt_12 ?_
  refine zv_iald (pc := 13) (jj := (zn x)) B (zat (by decide) (z33 _ _ _)) (zn_eq x) hbx (by decide) dX6_nodeAt_13 ?_
  have hE2 : (.inr (c 33 (zn x)) : String ⊕ Int32) = m_X6_nodeAt c x := hE3001
  exact zx_iret (pc := 14) B (c 33 (zn x)) hr (fun H hP => ⟨c 33 (zn x), ⟨hE2.symm, rfl⟩, hP⟩) (Nat.le_of_ble_eq_true rfl) (Nat.le_of_ble_eq_true rfl) dX6_nodeAt_14

def m_X6_longestBlock (c : Nat → Nat → Int32) : Int32 := (m_X0_shortestDelay c)
set_option maxRecDepth 100000 in
set_option maxHeartbeats 4000000 in
theorem k_X6_longestBlock (l : Launch) (E : zE) (b : Nat) (c : Nat → Nat → Int32) (w : Nat → Int64) (en : Nat → Nat) (ea : Nat → Nat → Int32)  (hg : zG c) : zM l yX6_longestBlock (.code yX6_longestBlock cX6_longestBlock 1 (some .int) :: zAll) (zRm 7 0 0) E b [.ref (b + 0)] (zH E b c w en ea) (fun v9 (_ : Unit) => v9 = some (.int (m_X6_longestBlock c))) (fun _ => zH E b c w en ea) 0 0 := by
  refine zM_of "ToneGraph" (by decide) rfl rfl (Nat.le_of_ble_eq_true rfl) (L0 := [(0, .ref (b + 0))]) rfl ?_
  intro p e s m args below meth c9 B hr hname
  refine zv_aload_n (pc := 0) B 0 rfl dX6_longestBlock_0 ?_
  refine zv_get (pc := 1) (v := .ref (b + 1)) B (zat (by decide) (z0 _ _ _)) cl6 inX6 0 (by decide) wf_X6_10 rfl dX6_longestBlock_1 ?_
  refine zv_callV (pc := 4) (As := []) (rest := []) B (k_X0_shortestDelay l E b _ _ _ _  hg) (zcwV 0 1 B wm_X6_158 wi_X0_shortestDelay wv_X0_shortestDelay wn_X0 wcode_X0_shortestDelay rfl (by decide +kernel) ⟨(Nat.le_of_ble_eq_true rfl), (Nat.le_of_ble_eq_true rfl)⟩) rfl (zrecv B (zat (by decide) (z1 _ _ _)) cl0) zid rfl (Nat.le_of_ble_eq_true rfl) dX6_longestBlock_4 ⟨(Nat.le_of_ble_eq_true rfl), (Nat.le_of_ble_eq_true rfl)⟩ (fun v9 u9 hv9 => ?_)
  subst hv9
  refine zv_st (st' := [.int (m_X0_shortestDelay c)]) rfl ?_
  have hE1 : (m_X0_shortestDelay c) = m_X6_longestBlock c := (by unfold m_X6_longestBlock; rfl)
  exact zv_iret (pc := 7) B ((m_X0_shortestDelay c)) hr (fun H hP => ⟨(), (congrArg (fun z => some (Value.int z)) hE1), hP⟩) (Nat.le_of_ble_eq_true rfl) (Nat.le_of_ble_eq_true rfl) dX6_longestBlock_7

def m_X6_setWave (c : Nat → Nat → Int32) (x : Int32) : String ⊕ (Int32 × (Nat → Nat → Int32)) := if x = 115 then (.inr (c 0 6, zup c 0 6 x)) else (if x = 113 then (.inr (c 0 6, zup c 0 6 x)) else (if x = 116 then (.inr (c 0 6, zup c 0 6 x)) else (.inl "java/lang/IllegalArgumentException")))
set_option maxRecDepth 100000 in
set_option maxHeartbeats 4000000 in
theorem k_X6_setWave (l : Launch) (E : zE) (b : Nat) (c : Nat → Nat → Int32) (w : Nat → Int64) (en : Nat → Nat) (ea : Nat → Nat → Int32) (x : Int32) (hx : zn x ≤ 65535) (hg : zG c) (hlf : l.stackTraces = false) : zX l yX6_setWave (.code yX6_setWave cX6_setWave 3 (some .char) :: zAll) (zRm 7 1 6) E b [.ref (b + 0), .int x] (zH E b c w en ea) (fun v9 (u9 : Int32 × (Nat → Nat → Int32)) => (m_X6_setWave c x) = .inr u9 ∧ v9 = some (.int u9.1) ∧ zfr 0 1 0 0 c u9.2 ∧ zG u9.2) (fun (u9 : Int32 × (Nat → Nat → Int32)) => zH E b u9.2 w en ea) (fun X9 => (m_X6_setWave c x) = .inl X9) 1 6 := by
  refine zX_of "ToneGraph" (by decide) rfl rfl (Nat.le_of_ble_eq_true rfl) (L0 := [(0, .ref (b + 0)), (1, .int x)]) rfl ?_
  intro p e s m args below meth c9 B hr htab
  refine zv_iload_n (pc := 0) B 1 rfl dX6_setWave_0 ?_
  refine zv_bipush (pc := 1) (v := 115) B rfl dX6_setWave_1 ?_
  refine zv_icmp_eq (pc := 3) (tgt := 28) B dX6_setWave_3 rfl (fun h1 => ?_) (fun h1 => ?_)
  · refine zv_aload_n (pc := 28) B 0 rfl dX6_setWave_28 ?_
    refine zv_get (pc := 29) (v := .int (c 0 6)) B (zat (by decide) (z0 _ _ _)) cl6 inX6 6 (by decide) wf_X6_42 rfl dX6_setWave_29 ?_
    refine zv_istore_n (pc := 32) (L' := [(2, .int (c 0 6)), (0, .ref (b + 0)), (1, .int x)]) B (by decide) rfl dX6_setWave_32 ?_
    refine zv_aload_n (pc := 33) B 1 rfl dX6_setWave_33 ?_
    refine zv_iload_n (pc := 34) B 2 rfl dX6_setWave_34 ?_
    refine zs_put9 (pc := 35) (f := 6) (F := fun x9 => [.ref (b + 1), .ref (b + 34), .ref (b + 70), .ref (b + 106), .ref (b + 108), .ref (b + 109), .int (x9 6), .ref (en 0)]) B zid (by decide) rfl (fun x => z0 x _ _) cl6 inX6 tyX6 tyX6_ok nmX6 (by decide) wf_X6_42 rfl rfl (znar_c hx) (zfit_c hx) (Nat.le_of_ble_eq_true rfl) (fun _ _ => rfl) dX6_setWave_35 ?_
    refine zv_iload_n (pc := 38) B 0 rfl dX6_setWave_38 ?_
    have hE2 : (.inr (c 0 6, zup c 0 6 x) : String ⊕ (Int32 × (Nat → Nat → Int32))) = m_X6_setWave c x := (by unfold m_X6_setWave; rw [if_pos h1])
    exact zx_zret (pc := 39) B (c 0 6) (znar_c (show zn _ ≤ 65535 from hg 0 6)) hr (fun H hP => ⟨(c 0 6, zup c 0 6 x), ⟨hE2.symm, rfl, (zfr.up zfr.refl (by omega)), (zG.up hg (show zn _ ≤ 65535 from hx))⟩, hP⟩) (Nat.le_of_ble_eq_true rfl) (Nat.le_of_ble_eq_true rfl) dX6_setWave_39
  · refine zv_iload_n (pc := 6) B 1 rfl dX6_setWave_6 ?_
    refine zv_bipush (pc := 7) (v := 113) B rfl dX6_setWave_7 ?_
    refine zv_icmp_eq (pc := 9) (tgt := 28) B dX6_setWave_9 rfl (fun h3 => ?_) (fun h3 => ?_)
    · refine zv_aload_n (pc := 28) B 0 rfl dX6_setWave_28 ?_
      refine zv_get (pc := 29) (v := .int (c 0 6)) B (zat (by decide) (z0 _ _ _)) cl6 inX6 6 (by decide) wf_X6_42 rfl dX6_setWave_29 ?_
      refine zv_istore_n (pc := 32) (L' := [(2, .int (c 0 6)), (0, .ref (b + 0)), (1, .int x)]) B (by decide) rfl dX6_setWave_32 ?_
      refine zv_aload_n (pc := 33) B 1 rfl dX6_setWave_33 ?_
      refine zv_iload_n (pc := 34) B 2 rfl dX6_setWave_34 ?_
      refine zs_put9 (pc := 35) (f := 6) (F := fun x9 => [.ref (b + 1), .ref (b + 34), .ref (b + 70), .ref (b + 106), .ref (b + 108), .ref (b + 109), .int (x9 6), .ref (en 0)]) B zid (by decide) rfl (fun x => z0 x _ _) cl6 inX6 tyX6 tyX6_ok nmX6 (by decide) wf_X6_42 rfl rfl (znar_c hx) (zfit_c hx) (Nat.le_of_ble_eq_true rfl) (fun _ _ => rfl) dX6_setWave_35 ?_
      refine zv_iload_n (pc := 38) B 0 rfl dX6_setWave_38 ?_
      have hE4 : (.inr (c 0 6, zup c 0 6 x) : String ⊕ (Int32 × (Nat → Nat → Int32))) = m_X6_setWave c x := (by unfold m_X6_setWave; rw [if_neg h1, if_pos h3])
      exact zx_zret (pc := 39) B (c 0 6) (znar_c (show zn _ ≤ 65535 from hg 0 6)) hr (fun H hP => ⟨(c 0 6, zup c 0 6 x), ⟨hE4.symm, rfl, (zfr.up zfr.refl (by omega)), (zG.up hg (show zn _ ≤ 65535 from hx))⟩, hP⟩) (Nat.le_of_ble_eq_true rfl) (Nat.le_of_ble_eq_true rfl) dX6_setWave_39
    · refine zv_iload_n (pc := 12) B 1 rfl dX6_setWave_12 ?_
      refine zv_bipush (pc := 13) (v := 116) B rfl dX6_setWave_13 ?_
      refine zv_icmp_eq (pc := 15) (tgt := 28) B dX6_setWave_15 rfl (fun h5 => ?_) (fun h5 => ?_)
      · refine zv_aload_n (pc := 28) B 0 rfl dX6_setWave_28 ?_
        refine zv_get (pc := 29) (v := .int (c 0 6)) B (zat (by decide) (z0 _ _ _)) cl6 inX6 6 (by decide) wf_X6_42 rfl dX6_setWave_29 ?_
        refine zv_istore_n (pc := 32) (L' := [(2, .int (c 0 6)), (0, .ref (b + 0)), (1, .int x)]) B (by decide) rfl dX6_setWave_32 ?_
        refine zv_aload_n (pc := 33) B 1 rfl dX6_setWave_33 ?_
        refine zv_iload_n (pc := 34) B 2 rfl dX6_setWave_34 ?_
        refine zs_put9 (pc := 35) (f := 6) (F := fun x9 => [.ref (b + 1), .ref (b + 34), .ref (b + 70), .ref (b + 106), .ref (b + 108), .ref (b + 109), .int (x9 6), .ref (en 0)]) B zid (by decide) rfl (fun x => z0 x _ _) cl6 inX6 tyX6 tyX6_ok nmX6 (by decide) wf_X6_42 rfl rfl (znar_c hx) (zfit_c hx) (Nat.le_of_ble_eq_true rfl) (fun _ _ => rfl) dX6_setWave_35 ?_
        refine zv_iload_n (pc := 38) B 0 rfl dX6_setWave_38 ?_
        have hE6 : (.inr (c 0 6, zup c 0 6 x) : String ⊕ (Int32 × (Nat → Nat → Int32))) = m_X6_setWave c x := (by unfold m_X6_setWave; rw [if_neg h1, if_neg h3, if_pos h5])
        exact zx_zret (pc := 39) B (c 0 6) (znar_c (show zn _ ≤ 65535 from hg 0 6)) hr (fun H hP => ⟨(c 0 6, zup c 0 6 x), ⟨hE6.symm, rfl, (zfr.up zfr.refl (by omega)), (zG.up hg (show zn _ ≤ 65535 from hx))⟩, hP⟩) (Nat.le_of_ble_eq_true rfl) (Nat.le_of_ble_eq_true rfl) dX6_setWave_39
      · have hE7 : (.inl "java/lang/IllegalArgumentException" : String ⊕ (Int32 × (Nat → Nat → Int32))) = m_X6_setWave c x := (by unfold m_X6_setWave; rw [if_neg h1, if_neg h3, if_neg h5])
        exact zx_throw (pc := 18) (j := 5) B hlf htab (by decide +kernel) (by decide +kernel) wc_X6_91 wn_IllegalArgumentException rfl zthr95 hE7.symm dX6_setWave_18 dX6_setWave_21 dX6_setWave_22 dX6_setWave_24 dX6_setWave_27 (Nat.le_of_ble_eq_true rfl) (Nat.le_of_ble_eq_true rfl) (Nat.le_of_ble_eq_true rfl) (Nat.le_of_ble_eq_true rfl) (Nat.le_of_ble_eq_true rfl) (Nat.le_of_ble_eq_true rfl) (fun H H1 h hq => zH.kept H H1 h hq)

def m_X6_begin (c : Nat → Nat → Int32) (en : Nat → Nat) (ea : Nat → Nat → Int32) (x y : Int32) : String ⊕ (Int32 × (Nat → Nat → Int32) × (Nat → Nat) × (Nat → Nat → Int32)) := xb (m_X6_refuseNoKey x) (fun u1 => xb (m_X6_refuseOutside y 1 100) (fun u2 => .inr ((m_X1_startNote c en ea 34 (zn x) y (c 0 6) (en 0) (ea 0)).1, (m_X1_startNote c en ea 34 (zn x) y (c 0 6) (en 0) (ea 0)).2.1, (m_X1_startNote c en ea 34 (zn x) y (c 0 6) (en 0) (ea 0)).2.2.1, (m_X1_startNote c en ea 34 (zn x) y (c 0 6) (en 0) (ea 0)).2.2.2)))
set_option maxRecDepth 100000 in
set_option maxHeartbeats 4000000 in
theorem k_X6_begin (l : Launch) (E : zE) (b : Nat) (c : Nat → Nat → Int32) (w : Nat → Int64) (en : Nat → Nat) (ea : Nat → Nat → Int32) (x y : Int32) (hg : zG c) (hlf : l.stackTraces = false) : zX l yX6_begin (.code yX6_begin cX6_begin 3 (some .int) :: zAll) (zRm 8 2 12) E b [.ref (b + 0), .int x, .int y] (zH E b c w en ea) (fun v9 (u9 : Int32 × (Nat → Nat → Int32) × (Nat → Nat) × (Nat → Nat → Int32)) => (m_X6_begin c en ea x y) = .inr u9 ∧ v9 = some (.int u9.1) ∧ zfr 34 45 34 34 c u9.2.1 ∧ zG u9.2.1) (fun (u9 : Int32 × (Nat → Nat → Int32) × (Nat → Nat) × (Nat → Nat → Int32)) => zH E b u9.2.1 w u9.2.2.1 u9.2.2.2) (fun X9 => (m_X6_begin c en ea x y) = .inl X9) 2 12 := by
  refine zX_of "ToneGraph" (by decide) rfl rfl (Nat.le_of_ble_eq_true rfl) (L0 := [(0, .ref (b + 0)), (1, .int x), (2, .int y)]) rfl ?_
  intro p e s m args below meth c9 B hr htab
  refine zv_iload_n (pc := 0) B 1 rfl dX6_begin_0 ?_
  have hX1 : (xb (m_X6_refuseNoKey x) (fun u1 => xb (m_X6_refuseOutside y 1 100) (fun u2 => .inr ((m_X1_startNote c en ea 34 (zn x) y (c 0 6) (en 0) (ea 0)).1, (m_X1_startNote c en ea 34 (zn x) y (c 0 6) (en 0) (ea 0)).2.1, (m_X1_startNote c en ea 34 (zn x) y (c 0 6) (en 0) (ea 0)).2.2.1, (m_X1_startNote c en ea 34 (zn x) y (c 0 6) (en 0) (ea 0)).2.2.2))) : String ⊕ (Int32 × (Nat → Nat → Int32) × (Nat → Nat) × (Nat → Nat → Int32))) = m_X6_begin c en ea x y := (by unfold m_X6_begin; rfl)
  refine zv_callSX (pc := 1) (As := [.int x]) (rest := []) B (k_X6_refuseNoKey l E b _ _ _ _  x hlf) (zcwS 1 7 B wm_X6_167 ws_X6_refuseNoKey wn_X6 wcode_X6_refuseNoKey (by decide +kernel) ⟨(Nat.le_of_ble_eq_true rfl), (Nat.le_of_ble_eq_true rfl)⟩) rfl zid rfl (Nat.le_of_ble_eq_true rfl) dX6_begin_1 ⟨(Nat.le_of_ble_eq_true rfl), (Nat.le_of_ble_eq_true rfl)⟩ (fun X9 hX9 => zx_out B htab (xb_inl hX1 hX9) zid (Nat.le_of_ble_eq_true rfl) (Nat.le_of_ble_eq_true rfl)) (fun v9 u1 hv9 => ?_)
  obtain ⟨hu1, rfl⟩ := hv9
  have hE3001 : (xb (m_X6_refuseOutside y 1 100) (fun u2 => .inr ((m_X1_startNote c en ea 34 (zn x) y (c 0 6) (en 0) (ea 0)).1, (m_X1_startNote c en ea 34 (zn x) y (c 0 6) (en 0) (ea 0)).2.1, (m_X1_startNote c en ea 34 (zn x) y (c 0 6) (en 0) (ea 0)).2.2.1, (m_X1_startNote c en ea 34 (zn x) y (c 0 6) (en 0) (ea 0)).2.2.2)) : String ⊕ (Int32 × (Nat → Nat → Int32) × (Nat → Nat) × (Nat → Nat → Int32))) = m_X6_begin c en ea x y := by have h9 := xb_inr hX1 hu1; exact h9
  refine zv_st (st' := []) rfl ?_
  have hbx := rk_ok hu1
  refine zv_iload_n (pc := 4) B 2 rfl dX6_begin_4 ?_
  refine zv_iconst (pc := 5) (v := 1) B rfl dX6_begin_5 ?_
  refine zv_bipush (pc := 6) (v := 100) B rfl dX6_begin_6 ?_
  have hX2 : (xb (m_X6_refuseOutside y 1 100) (fun u2 => .inr ((m_X1_startNote c en ea 34 (zn x) y (c 0 6) (en 0) (ea 0)).1, (m_X1_startNote c en ea 34 (zn x) y (c 0 6) (en 0) (ea 0)).2.1, (m_X1_startNote c en ea 34 (zn x) y (c 0 6) (en 0) (ea 0)).2.2.1, (m_X1_startNote c en ea 34 (zn x) y (c 0 6) (en 0) (ea 0)).2.2.2)) : String ⊕ (Int32 × (Nat → Nat → Int32) × (Nat → Nat) × (Nat → Nat → Int32))) = m_X6_begin c en ea x y := hE3001
  refine zv_callSX (pc := 8) (As := [.int y, .int 1, .int 100]) (rest := []) B (k_X6_refuseOutside l E b _ _ _ _  y 1 100 hlf) (zcwS 3 6 B wm_X6_55 ws_X6_refuseOutside wn_X6 wcode_X6_refuseOutside (by decide +kernel) ⟨(Nat.le_of_ble_eq_true rfl), (Nat.le_of_ble_eq_true rfl)⟩) rfl zid rfl (Nat.le_of_ble_eq_true rfl) dX6_begin_8 ⟨(Nat.le_of_ble_eq_true rfl), (Nat.le_of_ble_eq_true rfl)⟩ (fun X9 hX9 => zx_out B htab (xb_inl hX2 hX9) zid (Nat.le_of_ble_eq_true rfl) (Nat.le_of_ble_eq_true rfl)) (fun v9 u2 hv9 => ?_)
  obtain ⟨hu2, rfl⟩ := hv9
  have hE3002 : (.inr ((m_X1_startNote c en ea 34 (zn x) y (c 0 6) (en 0) (ea 0)).1, (m_X1_startNote c en ea 34 (zn x) y (c 0 6) (en 0) (ea 0)).2.1, (m_X1_startNote c en ea 34 (zn x) y (c 0 6) (en 0) (ea 0)).2.2.1, (m_X1_startNote c en ea 34 (zn x) y (c 0 6) (en 0) (ea 0)).2.2.2) : String ⊕ (Int32 × (Nat → Nat → Int32) × (Nat → Nat) × (Nat → Nat → Int32))) = m_X6_begin c en ea x y := by have h9 := xb_inr hX2 hu2; exact h9
  refine zv_st (st' := []) rfl ?_
  have hry := ro_rng hu2 (a := 1) (b' := 100) rfl rfl (by decide) (by decide)
  have hby : zn y < 101 := by omega
  refine zv_aload_n (pc := 11) B 0 rfl dX6_begin_11 ?_
  refine zv_get (pc := 12) (v := .ref (b + 34)) B (zat (by decide) (z0 _ _ _)) cl6 inX6 1 (by decide) wf_X6_21 rfl dX6_begin_12 ?_
  refine zv_get (pc := 15) (v := .ref (b + (34 + 1))) B (zat (zTk.lt (Or.inl rfl) (k := 0) (by decide)) (zt_trk (Or.inl rfl) _ _ _)) cl4 inX4 1 (by decide) wf_X6_170 rfl dX6_begin_15 ?_
  refine zv_iload_n (pc := 18) B 1 rfl dX6_begin_18 ?_
  refine zv_iload_n (pc := 19) B 2 rfl dX6_begin_19 ?_
  refine zv_aload_n (pc := 20) B 0 rfl dX6_begin_20 ?_
  refine zv_get (pc := 21) (v := .int (c 0 6)) B (zat (by decide) (z0 _ _ _)) cl6 inX6 6 (by decide) wf_X6_42 rfl dX6_begin_21 ?_
  refine zv_aload_n (pc := 24) B 0 rfl dX6_begin_24 ?_
  refine zv_get (pc := 25) (v := .ref (en 0)) B (zat (by decide) (z0 _ _ _)) cl6 inX6 7 (by decide) wf_X6_51 rfl dX6_begin_25 ?_
  refine zv_st (st' := [.ref (en 0), .int (c 0 6), .int y, .int (nI (zn x)), .ref (b + (34 + 1))]) (by rw [← zn_eq x]) ?_
  refine zv_callV (pc := 28) (As := [.int (nI (zn x)), .int y, .int (c 0 6), .ref (en 0)]) (rest := []) B (k_X1_startNote l E b _ _ _ _ (Or.inl rfl) hbx y (c 0 6) (show zn _ ≤ 65535 from hg 0 6) (en 0) (ea 0) (fun _ H h => h.2 0 rfl) hg) (zcwV 4 2 B wm_X6_174 wi_X1_startNote wv_X1_startNote wn_X1 wcode_X1_startNote rfl (by decide +kernel) ⟨(Nat.le_of_ble_eq_true rfl), (Nat.le_of_ble_eq_true rfl)⟩) rfl (zrecv B (zat (zTk.lt (Or.inl rfl) (by decide)) (zt_chr (Or.inl rfl) _ _ _)) cl1) zid rfl (Nat.le_of_ble_eq_true rfl) dX6_begin_28 ⟨(Nat.le_of_ble_eq_true rfl), (Nat.le_of_ble_eq_true rfl)⟩ (fun v9 u9 hv9 => ?_)
  obtain ⟨rfl, hF2003, hg2003⟩ := hv9
  refine zv_st (st' := [.int ((m_X1_startNote c en ea 34 (zn x) y (c 0 6) (en 0) (ea 0)).1)]) rfl ?_
  have hE4 : (.inr ((m_X1_startNote c en ea 34 (zn x) y (c 0 6) (en 0) (ea 0)).1, (m_X1_startNote c en ea 34 (zn x) y (c 0 6) (en 0) (ea 0)).2.1, (m_X1_startNote c en ea 34 (zn x) y (c 0 6) (en 0) (ea 0)).2.2.1, (m_X1_startNote c en ea 34 (zn x) y (c 0 6) (en 0) (ea 0)).2.2.2) : String ⊕ (Int32 × (Nat → Nat → Int32) × (Nat → Nat) × (Nat → Nat → Int32))) = m_X6_begin c en ea x y := hE3002
  exact zx_iret (pc := 31) B ((m_X1_startNote c en ea 34 (zn x) y (c 0 6) (en 0) (ea 0)).1) hr (fun H hP => ⟨((m_X1_startNote c en ea 34 (zn x) y (c 0 6) (en 0) (ea 0)).1, (m_X1_startNote c en ea 34 (zn x) y (c 0 6) (en 0) (ea 0)).2.1, (m_X1_startNote c en ea 34 (zn x) y (c 0 6) (en 0) (ea 0)).2.2.1, (m_X1_startNote c en ea 34 (zn x) y (c 0 6) (en 0) (ea 0)).2.2.2), ⟨hE4.symm, rfl, (zfr.call zfr.refl hF2003 (by omega)), hg2003⟩, hP⟩) (Nat.le_of_ble_eq_true rfl) (Nat.le_of_ble_eq_true rfl) dX6_begin_31

def m_X6_end (c : Nat → Nat → Int32) (ea : Nat → Nat → Int32) (x : Int32) : String ⊕ (Int32 × (Nat → Nat → Int32)) := xb (m_X6_refuseNoKey x) (fun u1 => if (m_X1_firstHeld c ea 34 x) = (-1) then (.inl "java/util/NoSuchElementException") else (.inr ((m_X1_firstHeld c ea 34 x), (m_X1_releaseNote c ea 34 (zn (m_X1_firstHeld c ea 34 x))))))
set_option maxRecDepth 100000 in
set_option maxHeartbeats 4000000 in
theorem k_X6_end (l : Launch) (E : zE) (b : Nat) (c : Nat → Nat → Int32) (w : Nat → Int64) (en : Nat → Nat) (ea : Nat → Nat → Int32) (x : Int32) (hg : zG c) (hlf : l.stackTraces = false) : zX l yX6_end (.code yX6_end cX6_end 3 (some .int) :: zAll) (zRm 8 2 12) E b [.ref (b + 0), .int x] (zH E b c w en ea) (fun v9 (u9 : Int32 × (Nat → Nat → Int32)) => (m_X6_end c ea x) = .inr u9 ∧ v9 = some (.int u9.1) ∧ zfr 34 45 34 34 c u9.2 ∧ zG u9.2) (fun (u9 : Int32 × (Nat → Nat → Int32)) => zH E b u9.2 w en ea) (fun X9 => (m_X6_end c ea x) = .inl X9) 2 12 := by
  refine zX_of "ToneGraph" (by decide) rfl rfl (Nat.le_of_ble_eq_true rfl) (L0 := [(0, .ref (b + 0)), (1, .int x)]) rfl ?_
  intro p e s m args below meth c9 B hr htab
  refine zv_iload_n (pc := 0) B 1 rfl dX6_end_0 ?_
  have hX1 : (xb (m_X6_refuseNoKey x) (fun u1 => if (m_X1_firstHeld c ea 34 x) = (-1) then (.inl "java/util/NoSuchElementException") else (.inr ((m_X1_firstHeld c ea 34 x), (m_X1_releaseNote c ea 34 (zn (m_X1_firstHeld c ea 34 x)))))) : String ⊕ (Int32 × (Nat → Nat → Int32))) = m_X6_end c ea x := (by unfold m_X6_end; rfl)
  refine zv_callSX (pc := 1) (As := [.int x]) (rest := []) B (k_X6_refuseNoKey l E b _ _ _ _  x hlf) (zcwS 1 7 B wm_X6_167 ws_X6_refuseNoKey wn_X6 wcode_X6_refuseNoKey (by decide +kernel) ⟨(Nat.le_of_ble_eq_true rfl), (Nat.le_of_ble_eq_true rfl)⟩) rfl zid rfl (Nat.le_of_ble_eq_true rfl) dX6_end_1 ⟨(Nat.le_of_ble_eq_true rfl), (Nat.le_of_ble_eq_true rfl)⟩ (fun X9 hX9 => zx_out B htab (xb_inl hX1 hX9) zid (Nat.le_of_ble_eq_true rfl) (Nat.le_of_ble_eq_true rfl)) (fun v9 u1 hv9 => ?_)
  obtain ⟨hu1, rfl⟩ := hv9
  have hE3001 : (if (m_X1_firstHeld c ea 34 x) = (-1) then (.inl "java/util/NoSuchElementException") else (.inr ((m_X1_firstHeld c ea 34 x), (m_X1_releaseNote c ea 34 (zn (m_X1_firstHeld c ea 34 x))))) : String ⊕ (Int32 × (Nat → Nat → Int32))) = m_X6_end c ea x := by have h9 := xb_inr hX1 hu1; exact h9
  refine zv_st (st' := []) rfl ?_
  have hbx := rk_ok hu1
  refine zv_aload_n (pc := 4) B 0 rfl dX6_end_4 ?_
  refine zv_get (pc := 5) (v := .ref (b + 34)) B (zat (by decide) (z0 _ _ _)) cl6 inX6 1 (by decide) wf_X6_21 rfl dX6_end_5 ?_
  refine zv_get (pc := 8) (v := .ref (b + (34 + 1))) B (zat (zTk.lt (Or.inl rfl) (k := 0) (by decide)) (zt_trk (Or.inl rfl) _ _ _)) cl4 inX4 1 (by decide) wf_X6_170 rfl dX6_end_8 ?_
  refine zv_iload_n (pc := 11) B 1 rfl dX6_end_11 ?_
  refine zv_callV (pc := 12) (As := [.int x]) (rest := []) B (k_X1_firstHeld l E b _ _ _ _ (Or.inl rfl) x) (zcwV 1 1 B wm_X6_180 wi_X1_firstHeld wv_X1_firstHeld wn_X1 wcode_X1_firstHeld rfl (by decide +kernel) ⟨(Nat.le_of_ble_eq_true rfl), (Nat.le_of_ble_eq_true rfl)⟩) rfl (zrecv B (zat (zTk.lt (Or.inl rfl) (by decide)) (zt_chr (Or.inl rfl) _ _ _)) cl1) zid rfl (Nat.le_of_ble_eq_true rfl) dX6_end_12 ⟨(Nat.le_of_ble_eq_true rfl), (Nat.le_of_ble_eq_true rfl)⟩ (fun v9 u9 hv9 => ?_)
  subst hv9
  refine zv_st (st' := [.int (m_X1_firstHeld c ea 34 x)]) rfl ?_
  refine zv_istore_n (pc := 15) (L' := [(2, .int (m_X1_firstHeld c ea 34 x)), (0, .ref (b + 0)), (1, .int x)]) B (by decide) rfl dX6_end_15 ?_
  refine zv_iload_n (pc := 16) B 0 rfl dX6_end_16 ?_
  refine zv_iconst (pc := 17) (v := (-1)) B rfl dX6_end_17 ?_
  refine zv_icmp_ne (pc := 18) (tgt := 31) B dX6_end_18 rfl (fun h2 => ?_) (fun h2 => ?_)
  · refine zv_aload_n (pc := 31) B 1 rfl dX6_end_31 ?_
    refine zv_get (pc := 32) (v := .ref (b + 34)) B (zat (by decide) (z0 _ _ _)) cl6 inX6 1 (by decide) wf_X6_21 rfl dX6_end_32 ?_
    refine zv_get (pc := 35) (v := .ref (b + (34 + 1))) B (zat (zTk.lt (Or.inl rfl) (k := 0) (by decide)) (zt_trk (Or.inl rfl) _ _ _)) cl4 inX4 1 (by decide) wf_X6_170 rfl dX6_end_35 ?_
    refine zv_iload_n (pc := 38) B 0 rfl dX6_end_38 ?_
    refine zv_st (st' := [.int (nI (zn (m_X1_firstHeld c ea 34 x))), .ref (b + (34 + 1))]) (by rw [← zn_eq (m_X1_firstHeld c ea 34 x)]) ?_
    refine zv_callV (pc := 39) (As := [.int (nI (zn (m_X1_firstHeld c ea 34 x)))]) (rest := []) B (k_X1_releaseNote l E b _ _ _ _ (Or.inl rfl) ((fh_lt _ _ _ _).resolve_left h2) hg) (zcwV 1 2 B wm_X6_186 wi_X1_releaseNote wv_X1_releaseNote wn_X1 wcode_X1_releaseNote rfl (by decide +kernel) ⟨(Nat.le_of_ble_eq_true rfl), (Nat.le_of_ble_eq_true rfl)⟩) rfl (zrecv B (zat (zTk.lt (Or.inl rfl) (by decide)) (zt_chr (Or.inl rfl) _ _ _)) cl1) zid rfl (Nat.le_of_ble_eq_true rfl) dX6_end_39 ⟨(Nat.le_of_ble_eq_true rfl), (Nat.le_of_ble_eq_true rfl)⟩ (fun v9 u9 hv9 => ?_)
    obtain ⟨rfl, hF2003, hg2003⟩ := hv9
    refine zv_st (st' := []) rfl ?_
    refine zv_iload_n (pc := 42) B 0 rfl dX6_end_42 ?_
    have hE4 : (.inr ((m_X1_firstHeld c ea 34 x), (m_X1_releaseNote c ea 34 (zn (m_X1_firstHeld c ea 34 x)))) : String ⊕ (Int32 × (Nat → Nat → Int32))) = m_X6_end c ea x := (Eq.trans (by rw [if_neg h2]) hE3001)
    exact zx_iret (pc := 43) B ((m_X1_firstHeld c ea 34 x)) hr (fun H hP => ⟨((m_X1_firstHeld c ea 34 x), (m_X1_releaseNote c ea 34 (zn (m_X1_firstHeld c ea 34 x)))), ⟨hE4.symm, rfl, (zfr.call zfr.refl hF2003 (by omega)), hg2003⟩, hP⟩) (Nat.le_of_ble_eq_true rfl) (Nat.le_of_ble_eq_true rfl) dX6_end_43
  · have hE5 : (.inl "java/util/NoSuchElementException" : String ⊕ (Int32 × (Nat → Nat → Int32))) = m_X6_end c ea x := (Eq.trans (by rw [if_pos h2]) hE3001)
    exact zx_throwN (pc := 21) (j := 6) B hlf htab rfl hE5.symm dX6_end_21 dX6_end_24 dX6_end_25 dX6_end_27 dX6_end_30 (Nat.le_of_ble_eq_true rfl) (Nat.le_of_ble_eq_true rfl) (Nat.le_of_ble_eq_true rfl) (Nat.le_of_ble_eq_true rfl) (Nat.le_of_ble_eq_true rfl) (Nat.le_of_ble_eq_true rfl) (fun H H1 h hq => zH.kept H H1 h hq)

def m_X6_endAll (c : Nat → Nat → Int32) (ea : Nat → Nat → Int32) : Int32 × (Nat → Nat → Int32) := ((m_X1_releaseEach c ea 34).1, (m_X1_releaseEach c ea 34).2)
set_option maxRecDepth 100000 in
set_option maxHeartbeats 4000000 in
theorem k_X6_endAll (l : Launch) (E : zE) (b : Nat) (c : Nat → Nat → Int32) (w : Nat → Int64) (en : Nat → Nat) (ea : Nat → Nat → Int32)  (hg : zG c) : zM l yX6_endAll (.code yX6_endAll cX6_endAll 1 (some .int) :: zAll) (zRm 7 0 0) E b [.ref (b + 0)] (zH E b c w en ea) (fun v9 (_ : Unit) => v9 = some (.int (m_X6_endAll c ea).1) ∧ zfr 34 45 34 34 c (m_X6_endAll c ea).2 ∧ zG (m_X6_endAll c ea).2) (fun _ => zH E b ((m_X6_endAll c ea).2) w en ea) 0 0 := by
  refine zM_of "ToneGraph" (by decide) rfl rfl (Nat.le_of_ble_eq_true rfl) (L0 := [(0, .ref (b + 0))]) rfl ?_
  intro p e s m args below meth c9 B hr hname
  refine zv_aload_n (pc := 0) B 0 rfl dX6_endAll_0 ?_
  refine zv_get (pc := 1) (v := .ref (b + 34)) B (zat (by decide) (z0 _ _ _)) cl6 inX6 1 (by decide) wf_X6_21 rfl dX6_endAll_1 ?_
  refine zv_get (pc := 4) (v := .ref (b + (34 + 1))) B (zat (zTk.lt (Or.inl rfl) (k := 0) (by decide)) (zt_trk (Or.inl rfl) _ _ _)) cl4 inX4 1 (by decide) wf_X6_170 rfl dX6_endAll_4 ?_
  refine zv_callV (pc := 7) (As := []) (rest := []) B (k_X1_releaseEach l E b _ _ _ _ (Or.inl rfl) hg) (zcwV 0 3 B wm_X6_189 wi_X1_releaseEach wv_X1_releaseEach wn_X1 wcode_X1_releaseEach rfl (by decide +kernel) ⟨(Nat.le_of_ble_eq_true rfl), (Nat.le_of_ble_eq_true rfl)⟩) rfl (zrecv B (zat (zTk.lt (Or.inl rfl) (by decide)) (zt_chr (Or.inl rfl) _ _ _)) cl1) zid rfl (Nat.le_of_ble_eq_true rfl) dX6_endAll_7 ⟨(Nat.le_of_ble_eq_true rfl), (Nat.le_of_ble_eq_true rfl)⟩ (fun v9 u9 hv9 => ?_)
  obtain ⟨rfl, hF2001, hg2001⟩ := hv9
  refine zv_st (st' := [.int ((m_X1_releaseEach c ea 34).1)]) rfl ?_
  have hE2 : ((m_X1_releaseEach c ea 34).1, (m_X1_releaseEach c ea 34).2) = m_X6_endAll c ea := (by unfold m_X6_endAll; rfl)
  exact zv_iret (pc := 10) B ((m_X1_releaseEach c ea 34).1) hr (fun H hP => ⟨(), ⟨(congrArg (fun z => some (Value.int z.1)) hE2), Eq.subst (motive := fun z => zfr 34 45 34 34 c z.2) hE2 (zfr.call zfr.refl hF2001 (by omega)), Eq.subst (motive := fun z => zG z.2) hE2 hg2001⟩, Eq.subst (motive := fun z => zH E b z.2 w en ea H) hE2 hP⟩) (Nat.le_of_ble_eq_true rfl) (Nat.le_of_ble_eq_true rfl) dX6_endAll_10

def m_X6_sounding (c : Nat → Nat → Int32) : Int32 := (m_X1_countPlaying c 34)
set_option maxRecDepth 100000 in
set_option maxHeartbeats 4000000 in
theorem k_X6_sounding (l : Launch) (E : zE) (b : Nat) (c : Nat → Nat → Int32) (w : Nat → Int64) (en : Nat → Nat) (ea : Nat → Nat → Int32)  (hg : zG c) : zM l yX6_sounding (.code yX6_sounding cX6_sounding 1 (some .int) :: zAll) (zRm 7 0 0) E b [.ref (b + 0)] (zH E b c w en ea) (fun v9 (_ : Unit) => v9 = some (.int (m_X6_sounding c))) (fun _ => zH E b c w en ea) 0 0 := by
  refine zM_of "ToneGraph" (by decide) rfl rfl (Nat.le_of_ble_eq_true rfl) (L0 := [(0, .ref (b + 0))]) rfl ?_
  intro p e s m args below meth c9 B hr hname
  refine zv_aload_n (pc := 0) B 0 rfl dX6_sounding_0 ?_
  refine zv_get (pc := 1) (v := .ref (b + 34)) B (zat (by decide) (z0 _ _ _)) cl6 inX6 1 (by decide) wf_X6_21 rfl dX6_sounding_1 ?_
  refine zv_get (pc := 4) (v := .ref (b + (34 + 1))) B (zat (zTk.lt (Or.inl rfl) (k := 0) (by decide)) (zt_trk (Or.inl rfl) _ _ _)) cl4 inX4 1 (by decide) wf_X6_170 rfl dX6_sounding_4 ?_
  refine zv_callV (pc := 7) (As := []) (rest := []) B (k_X1_countPlaying l E b _ _ _ _ (Or.inl rfl)) (zcwV 0 0 B wm_X6_192 wi_X1_countPlaying wv_X1_countPlaying wn_X1 wcode_X1_countPlaying rfl (by decide +kernel) ⟨(Nat.le_of_ble_eq_true rfl), (Nat.le_of_ble_eq_true rfl)⟩) rfl (zrecv B (zat (zTk.lt (Or.inl rfl) (by decide)) (zt_chr (Or.inl rfl) _ _ _)) cl1) zid rfl (Nat.le_of_ble_eq_true rfl) dX6_sounding_7 ⟨(Nat.le_of_ble_eq_true rfl), (Nat.le_of_ble_eq_true rfl)⟩ (fun v9 u9 hv9 => ?_)
  subst hv9
  refine zv_st (st' := [.int (m_X1_countPlaying c 34)]) rfl ?_
  have hE1 : (m_X1_countPlaying c 34) = m_X6_sounding c := (by unfold m_X6_sounding; rfl)
  exact zv_iret (pc := 10) B ((m_X1_countPlaying c 34)) hr (fun H hP => ⟨(), (congrArg (fun z => some (Value.int z)) hE1), hP⟩) (Nat.le_of_ble_eq_true rfl) (Nat.le_of_ble_eq_true rfl) dX6_sounding_10

def m_X6_stateOf (c : Nat → Nat → Int32) (ea : Nat → Nat → Int32) (x : Int32) : String ⊕ Int32 := xb (m_X6_refuseNoVoice x) (fun u1 => .inr (m_X5_stage c ea 34 (zn x)))
set_option maxRecDepth 100000 in
set_option maxHeartbeats 4000000 in
theorem k_X6_stateOf (l : Launch) (E : zE) (b : Nat) (c : Nat → Nat → Int32) (w : Nat → Int64) (en : Nat → Nat) (ea : Nat → Nat → Int32) (x : Int32) (hg : zG c) (hlf : l.stackTraces = false) : zX l yX6_stateOf (.code yX6_stateOf cX6_stateOf 2 (some .char) :: zAll) (zRm 7 1 6) E b [.ref (b + 0), .int x] (zH E b c w en ea) (fun v9 (u9 : Int32) => (m_X6_stateOf c ea x) = .inr u9 ∧ v9 = some (.int u9)) (fun (u9 : Int32) => zH E b c w en ea) (fun X9 => (m_X6_stateOf c ea x) = .inl X9) 1 6 := by
  refine zX_of "ToneGraph" (by decide) rfl rfl (Nat.le_of_ble_eq_true rfl) (L0 := [(0, .ref (b + 0)), (1, .int x)]) rfl ?_
  intro p e s m args below meth c9 B hr htab
  refine zv_iload_n (pc := 0) B 1 rfl dX6_stateOf_0 ?_
  have hX1 : (xb (m_X6_refuseNoVoice x) (fun u1 => .inr (m_X5_stage c ea 34 (zn x))) : String ⊕ Int32) = m_X6_stateOf c ea x := (by unfold m_X6_stateOf; rfl)
  refine zv_callSX (pc := 1) (As := [.int x]) (rest := []) B (k_X6_refuseNoVoice l E b _ _ _ _  x hlf) (zcwS 1 6 B wm_X6_195 ws_X6_refuseNoVoice wn_X6 wcode_X6_refuseNoVoice (by decide +kernel) ⟨(Nat.le_of_ble_eq_true rfl), (Nat.le_of_ble_eq_true rfl)⟩) rfl zid rfl (Nat.le_of_ble_eq_true rfl) dX6_stateOf_1 ⟨(Nat.le_of_ble_eq_true rfl), (Nat.le_of_ble_eq_true rfl)⟩ (fun X9 hX9 => zx_out B htab (xb_inl hX1 hX9) zid (Nat.le_of_ble_eq_true rfl) (Nat.le_of_ble_eq_true rfl)) (fun v9 u1 hv9 => ?_)
  obtain ⟨hu1, rfl⟩ := hv9
  have hE3001 : (.inr (m_X5_stage c ea 34 (zn x)) : String ⊕ Int32) = m_X6_stateOf c ea x := by have h9 := xb_inr hX1 hu1; exact h9
  refine zv_st (st' := []) rfl ?_
  have hbx := rv_ok hu1
  refine zv_aload_n (pc := 4) B 0 rfl dX6_stateOf_4 ?_
  refine zv_get (pc := 5) (v := .ref (b + 34)) B (zat (by decide) (z0 _ _ _)) cl6 inX6 1 (by decide) wf_X6_21 rfl dX6_stateOf_5 ?_
  refine zv_get (pc := 8) (v := .ref (b + (34 + 1))) B (zat (zTk.lt (Or.inl rfl) (k := 0) (by decide)) (zt_trk (Or.inl rfl) _ _ _)) cl4 inX4 1 (by decide) wf_X6_170 rfl dX6_stateOf_8 ?_
  refine zv_get (pc := 11) (v := .ref (b + (34 + 2))) B (zat (zTk.lt (Or.inl rfl) (by decide)) (zt_chr (Or.inl rfl) _ _ _)) cl1 inX1 0 (by decide) wf_X6_198 rfl dX6_stateOf_11 ?_
  refine zv_iload_n (pc := 14) B 1 rfl dX6_stateOf_14 ?_
  refine zv_vald (pc := 15) (jj := (zn x)) (q1 := b + (34 + 3 + 2 * (zn x))) B (zat (zTk.lt (Or.inl rfl) (by decide)) (zt_vcs (Or.inl rfl) _ _ _)) (zn_eq x) hbx (by decide) (if_pos hbx) dX6_stateOf_15 ?_
  refine zv_callV (pc := 16) (As := []) (rest := []) B (k_X5_stage l E b _ _ _ _ (Or.inl rfl) hbx) (zcwV 0 0 B wm_X6_202 wi_X5_stage wv_X5_stage wn_X5 wcode_X5_stage rfl (by decide +kernel) ⟨(Nat.le_of_ble_eq_true rfl), (Nat.le_of_ble_eq_true rfl)⟩) rfl (zrecv B (zat (by have h9 : zn x < 4 := hbx; have := zTk.lt (Or.inl rfl) (k := 3 + 2 * (zn x)) (by omega); omega) (zt_vc (Or.inl rfl) hbx _ _ _)) cl5) zid rfl (Nat.le_of_ble_eq_true rfl) dX6_stateOf_16 ⟨(Nat.le_of_ble_eq_true rfl), (Nat.le_of_ble_eq_true rfl)⟩ (fun v9 u9 hv9 => ?_)
  subst hv9
  refine zv_st (st' := [.int (m_X5_stage c ea 34 (zn x))]) rfl ?_
  have hE2 : (.inr (m_X5_stage c ea 34 (zn x)) : String ⊕ Int32) = m_X6_stateOf c ea x := hE3001
  exact zx_zret (pc := 19) B ((m_X5_stage c ea 34 (zn x))) (znar_c (stage_le _ _ _ _)) hr (fun H hP => ⟨(m_X5_stage c ea 34 (zn x)), ⟨hE2.symm, rfl⟩, hP⟩) (Nat.le_of_ble_eq_true rfl) (Nat.le_of_ble_eq_true rfl) dX6_stateOf_19

def m_X6_keyOf (c : Nat → Nat → Int32) (x : Int32) : String ⊕ Int32 := xb (m_X6_refuseNoVoice x) (fun u1 => xb (m_X6_refuseFree c (zn x)) (fun u2 => .inr (c (34 + 3 + 2 * (zn x)) 2)))
set_option maxRecDepth 100000 in
set_option maxHeartbeats 4000000 in
theorem k_X6_keyOf (l : Launch) (E : zE) (b : Nat) (c : Nat → Nat → Int32) (w : Nat → Int64) (en : Nat → Nat) (ea : Nat → Nat → Int32) (x : Int32) (hg : zG c) (hlf : l.stackTraces = false) : zX l yX6_keyOf (.code yX6_keyOf cX6_keyOf 2 (some .int) :: zAll) (zRm 7 2 12) E b [.ref (b + 0), .int x] (zH E b c w en ea) (fun v9 (u9 : Int32) => (m_X6_keyOf c x) = .inr u9 ∧ v9 = some (.int u9)) (fun (u9 : Int32) => zH E b c w en ea) (fun X9 => (m_X6_keyOf c x) = .inl X9) 2 12 := by
  refine zX_of "ToneGraph" (by decide) rfl rfl (Nat.le_of_ble_eq_true rfl) (L0 := [(0, .ref (b + 0)), (1, .int x)]) rfl ?_
  intro p e s m args below meth c9 B hr htab
  refine zv_iload_n (pc := 0) B 1 rfl dX6_keyOf_0 ?_
  have hX1 : (xb (m_X6_refuseNoVoice x) (fun u1 => xb (m_X6_refuseFree c (zn x)) (fun u2 => .inr (c (34 + 3 + 2 * (zn x)) 2))) : String ⊕ Int32) = m_X6_keyOf c x := (by unfold m_X6_keyOf; rfl)
  refine zv_callSX (pc := 1) (As := [.int x]) (rest := []) B (k_X6_refuseNoVoice l E b _ _ _ _  x hlf) (zcwS 1 6 B wm_X6_195 ws_X6_refuseNoVoice wn_X6 wcode_X6_refuseNoVoice (by decide +kernel) ⟨(Nat.le_of_ble_eq_true rfl), (Nat.le_of_ble_eq_true rfl)⟩) rfl zid rfl (Nat.le_of_ble_eq_true rfl) dX6_keyOf_1 ⟨(Nat.le_of_ble_eq_true rfl), (Nat.le_of_ble_eq_true rfl)⟩ (fun X9 hX9 => zx_out B htab (xb_inl hX1 hX9) zid (Nat.le_of_ble_eq_true rfl) (Nat.le_of_ble_eq_true rfl)) (fun v9 u1 hv9 => ?_)
  obtain ⟨hu1, rfl⟩ := hv9
  have hE3001 : (xb (m_X6_refuseFree c (zn x)) (fun u2 => .inr (c (34 + 3 + 2 * (zn x)) 2)) : String ⊕ Int32) = m_X6_keyOf c x := by have h9 := xb_inr hX1 hu1; exact h9
  refine zv_st (st' := []) rfl ?_
  have hbx := rv_ok hu1
  refine zv_aload_n (pc := 4) B 0 rfl dX6_keyOf_4 ?_
  refine zv_iload_n (pc := 5) B 1 rfl dX6_keyOf_5 ?_
  refine zv_st (st' := [.int (nI (zn x)), .ref (b + 0)]) (by rw [← zn_eq x]) ?_
  have hX2 : (xb (m_X6_refuseFree c (zn x)) (fun u2 => .inr (c (34 + 3 + 2 * (zn x)) 2)) : String ⊕ Int32) = m_X6_keyOf c x := hE3001
  refine zv_callVX (pc := 6) (As := [.int (nI (zn x))]) (rest := []) B (k_X6_refuseFree l E b _ _ _ _  hbx hlf) (zcwV 1 6 B wm_X6_208 wi_X6_refuseFree wv_X6_refuseFree wn_X6 wcode_X6_refuseFree rfl (by decide +kernel) ⟨(Nat.le_of_ble_eq_true rfl), (Nat.le_of_ble_eq_true rfl)⟩) rfl (zrecv B (zat (by decide) (z0 _ _ _)) cl6) zid rfl (Nat.le_of_ble_eq_true rfl) dX6_keyOf_6 ⟨(Nat.le_of_ble_eq_true rfl), (Nat.le_of_ble_eq_true rfl)⟩ (fun X9 hX9 => zx_out B htab (xb_inl hX2 hX9) zid (Nat.le_of_ble_eq_true rfl) (Nat.le_of_ble_eq_true rfl)) (fun v9 u2 hv9 => ?_)
  obtain ⟨hu2, rfl⟩ := hv9
  have hE3002 : (.inr (c (34 + 3 + 2 * (zn x)) 2) : String ⊕ Int32) = m_X6_keyOf c x := by have h9 := xb_inr hX2 hu2; exact h9
  refine zv_st (st' := []) rfl ?_
  refine zv_aload_n (pc := 9) B 0 rfl dX6_keyOf_9 ?_
  refine zv_get (pc := 10) (v := .ref (b + 34)) B (zat (by decide) (z0 _ _ _)) cl6 inX6 1 (by decide) wf_X6_21 rfl dX6_keyOf_10 ?_
  refine zv_get (pc := 13) (v := .ref (b + (34 + 1))) B (zat (zTk.lt (Or.inl rfl) (k := 0) (by decide)) (zt_trk (Or.inl rfl) _ _ _)) cl4 inX4 1 (by decide) wf_X6_170 rfl dX6_keyOf_13 ?_
  refine zv_get (pc := 16) (v := .ref (b + (34 + 2))) B (zat (zTk.lt (Or.inl rfl) (by decide)) (zt_chr (Or.inl rfl) _ _ _)) cl1 inX1 0 (by decide) wf_X6_198 rfl dX6_keyOf_16 ?_
  refine zv_iload_n (pc := 19) B 1 rfl dX6_keyOf_19 ?_
  refine zv_vald (pc := 20) (jj := (zn x)) (q1 := b + (34 + 3 + 2 * (zn x))) B (zat (zTk.lt (Or.inl rfl) (by decide)) (zt_vcs (Or.inl rfl) _ _ _)) (zn_eq x) hbx (by decide) (if_pos hbx) dX6_keyOf_20 ?_
  refine zv_get (pc := 21) (v := .int (c (34 + 3 + 2 * (zn x)) 2)) B (zat (by have h9 : zn x < 4 := hbx; have := zTk.lt (Or.inl rfl) (k := 3 + 2 * (zn x)) (by omega); omega) (zt_vc (Or.inl rfl) hbx _ _ _)) cl5 inX5 2 (by decide) wf_X6_211 rfl dX6_keyOf_21 ?_
  have hE3 : (.inr (c (34 + 3 + 2 * (zn x)) 2) : String ⊕ Int32) = m_X6_keyOf c x := hE3002
  exact zx_iret (pc := 24) B (c (34 + 3 + 2 * (zn x)) 2) hr (fun H hP => ⟨c (34 + 3 + 2 * (zn x)) 2, ⟨hE3.symm, rfl⟩, hP⟩) (Nat.le_of_ble_eq_true rfl) (Nat.le_of_ble_eq_true rfl) dX6_keyOf_24

def m_X6_levelOf (c : Nat → Nat → Int32) (ea : Nat → Nat → Int32) (x : Int32) : String ⊕ Int32 := xb (m_X6_refuseNoVoice x) (fun u1 => .inr (m_X5_level c ea 34 (zn x)))
set_option maxRecDepth 100000 in
set_option maxHeartbeats 4000000 in
theorem k_X6_levelOf (l : Launch) (E : zE) (b : Nat) (c : Nat → Nat → Int32) (w : Nat → Int64) (en : Nat → Nat) (ea : Nat → Nat → Int32) (x : Int32) (hg : zG c) (hlf : l.stackTraces = false) : zX l yX6_levelOf (.code yX6_levelOf cX6_levelOf 2 (some .int) :: zAll) (zRm 7 1 6) E b [.ref (b + 0), .int x] (zH E b c w en ea) (fun v9 (u9 : Int32) => (m_X6_levelOf c ea x) = .inr u9 ∧ v9 = some (.int u9)) (fun (u9 : Int32) => zH E b c w en ea) (fun X9 => (m_X6_levelOf c ea x) = .inl X9) 1 6 := by
  refine zX_of "ToneGraph" (by decide) rfl rfl (Nat.le_of_ble_eq_true rfl) (L0 := [(0, .ref (b + 0)), (1, .int x)]) rfl ?_
  intro p e s m args below meth c9 B hr htab
  refine zv_iload_n (pc := 0) B 1 rfl dX6_levelOf_0 ?_
  have hX1 : (xb (m_X6_refuseNoVoice x) (fun u1 => .inr (m_X5_level c ea 34 (zn x))) : String ⊕ Int32) = m_X6_levelOf c ea x := (by unfold m_X6_levelOf; rfl)
  refine zv_callSX (pc := 1) (As := [.int x]) (rest := []) B (k_X6_refuseNoVoice l E b _ _ _ _  x hlf) (zcwS 1 6 B wm_X6_195 ws_X6_refuseNoVoice wn_X6 wcode_X6_refuseNoVoice (by decide +kernel) ⟨(Nat.le_of_ble_eq_true rfl), (Nat.le_of_ble_eq_true rfl)⟩) rfl zid rfl (Nat.le_of_ble_eq_true rfl) dX6_levelOf_1 ⟨(Nat.le_of_ble_eq_true rfl), (Nat.le_of_ble_eq_true rfl)⟩ (fun X9 hX9 => zx_out B htab (xb_inl hX1 hX9) zid (Nat.le_of_ble_eq_true rfl) (Nat.le_of_ble_eq_true rfl)) (fun v9 u1 hv9 => ?_)
  obtain ⟨hu1, rfl⟩ := hv9
  have hE3001 : (.inr (m_X5_level c ea 34 (zn x)) : String ⊕ Int32) = m_X6_levelOf c ea x := by have h9 := xb_inr hX1 hu1; exact h9
  refine zv_st (st' := []) rfl ?_
  have hbx := rv_ok hu1
  refine zv_aload_n (pc := 4) B 0 rfl dX6_levelOf_4 ?_
  refine zv_get (pc := 5) (v := .ref (b + 34)) B (zat (by decide) (z0 _ _ _)) cl6 inX6 1 (by decide) wf_X6_21 rfl dX6_levelOf_5 ?_
  refine zv_get (pc := 8) (v := .ref (b + (34 + 1))) B (zat (zTk.lt (Or.inl rfl) (k := 0) (by decide)) (zt_trk (Or.inl rfl) _ _ _)) cl4 inX4 1 (by decide) wf_X6_170 rfl dX6_levelOf_8 ?_
  refine zv_get (pc := 11) (v := .ref (b + (34 + 2))) B (zat (zTk.lt (Or.inl rfl) (by decide)) (zt_chr (Or.inl rfl) _ _ _)) cl1 inX1 0 (by decide) wf_X6_198 rfl dX6_levelOf_11 ?_
  refine zv_iload_n (pc := 14) B 1 rfl dX6_levelOf_14 ?_
  refine zv_vald (pc := 15) (jj := (zn x)) (q1 := b + (34 + 3 + 2 * (zn x))) B (zat (zTk.lt (Or.inl rfl) (by decide)) (zt_vcs (Or.inl rfl) _ _ _)) (zn_eq x) hbx (by decide) (if_pos hbx) dX6_levelOf_15 ?_
  refine zv_callV (pc := 16) (As := []) (rest := []) B (k_X5_level l E b _ _ _ _ (Or.inl rfl) hbx) (zcwV 0 0 B wm_X6_214 wi_X5_level wv_X5_level wn_X5 wcode_X5_level rfl (by decide +kernel) ⟨(Nat.le_of_ble_eq_true rfl), (Nat.le_of_ble_eq_true rfl)⟩) rfl (zrecv B (zat (by have h9 : zn x < 4 := hbx; have := zTk.lt (Or.inl rfl) (k := 3 + 2 * (zn x)) (by omega); omega) (zt_vc (Or.inl rfl) hbx _ _ _)) cl5) zid rfl (Nat.le_of_ble_eq_true rfl) dX6_levelOf_16 ⟨(Nat.le_of_ble_eq_true rfl), (Nat.le_of_ble_eq_true rfl)⟩ (fun v9 u9 hv9 => ?_)
  subst hv9
  refine zv_st (st' := [.int (m_X5_level c ea 34 (zn x))]) rfl ?_
  have hE2 : (.inr (m_X5_level c ea 34 (zn x)) : String ⊕ Int32) = m_X6_levelOf c ea x := hE3001
  exact zx_iret (pc := 19) B ((m_X5_level c ea 34 (zn x))) hr (fun H hP => ⟨(m_X5_level c ea 34 (zn x)), ⟨hE2.symm, rfl⟩, hP⟩) (Nat.le_of_ble_eq_true rfl) (Nat.le_of_ble_eq_true rfl) dX6_levelOf_19

def m_X6_phaseOf (c : Nat → Nat → Int32) (x : Int32) : String ⊕ Int32 := xb (m_X6_refuseNoVoice x) (fun u1 => xb (m_X6_refuseFree c (zn x)) (fun u2 => .inr (c (34 + 3 + 2 * (zn x)) 7)))
set_option maxRecDepth 100000 in
set_option maxHeartbeats 4000000 in
theorem k_X6_phaseOf (l : Launch) (E : zE) (b : Nat) (c : Nat → Nat → Int32) (w : Nat → Int64) (en : Nat → Nat) (ea : Nat → Nat → Int32) (x : Int32) (hg : zG c) (hlf : l.stackTraces = false) : zX l yX6_phaseOf (.code yX6_phaseOf cX6_phaseOf 2 (some .int) :: zAll) (zRm 7 2 12) E b [.ref (b + 0), .int x] (zH E b c w en ea) (fun v9 (u9 : Int32) => (m_X6_phaseOf c x) = .inr u9 ∧ v9 = some (.int u9)) (fun (u9 : Int32) => zH E b c w en ea) (fun X9 => (m_X6_phaseOf c x) = .inl X9) 2 12 := by
  refine zX_of "ToneGraph" (by decide) rfl rfl (Nat.le_of_ble_eq_true rfl) (L0 := [(0, .ref (b + 0)), (1, .int x)]) rfl ?_
  intro p e s m args below meth c9 B hr htab
  refine zv_iload_n (pc := 0) B 1 rfl dX6_phaseOf_0 ?_
  have hX1 : (xb (m_X6_refuseNoVoice x) (fun u1 => xb (m_X6_refuseFree c (zn x)) (fun u2 => .inr (c (34 + 3 + 2 * (zn x)) 7))) : String ⊕ Int32) = m_X6_phaseOf c x := (by unfold m_X6_phaseOf; rfl)
  refine zv_callSX (pc := 1) (As := [.int x]) (rest := []) B (k_X6_refuseNoVoice l E b _ _ _ _  x hlf) (zcwS 1 6 B wm_X6_195 ws_X6_refuseNoVoice wn_X6 wcode_X6_refuseNoVoice (by decide +kernel) ⟨(Nat.le_of_ble_eq_true rfl), (Nat.le_of_ble_eq_true rfl)⟩) rfl zid rfl (Nat.le_of_ble_eq_true rfl) dX6_phaseOf_1 ⟨(Nat.le_of_ble_eq_true rfl), (Nat.le_of_ble_eq_true rfl)⟩ (fun X9 hX9 => zx_out B htab (xb_inl hX1 hX9) zid (Nat.le_of_ble_eq_true rfl) (Nat.le_of_ble_eq_true rfl)) (fun v9 u1 hv9 => ?_)
  obtain ⟨hu1, rfl⟩ := hv9
  have hE3001 : (xb (m_X6_refuseFree c (zn x)) (fun u2 => .inr (c (34 + 3 + 2 * (zn x)) 7)) : String ⊕ Int32) = m_X6_phaseOf c x := by have h9 := xb_inr hX1 hu1; exact h9
  refine zv_st (st' := []) rfl ?_
  have hbx := rv_ok hu1
  refine zv_aload_n (pc := 4) B 0 rfl dX6_phaseOf_4 ?_
  refine zv_iload_n (pc := 5) B 1 rfl dX6_phaseOf_5 ?_
  refine zv_st (st' := [.int (nI (zn x)), .ref (b + 0)]) (by rw [← zn_eq x]) ?_
  have hX2 : (xb (m_X6_refuseFree c (zn x)) (fun u2 => .inr (c (34 + 3 + 2 * (zn x)) 7)) : String ⊕ Int32) = m_X6_phaseOf c x := hE3001
  refine zv_callVX (pc := 6) (As := [.int (nI (zn x))]) (rest := []) B (k_X6_refuseFree l E b _ _ _ _  hbx hlf) (zcwV 1 6 B wm_X6_208 wi_X6_refuseFree wv_X6_refuseFree wn_X6 wcode_X6_refuseFree rfl (by decide +kernel) ⟨(Nat.le_of_ble_eq_true rfl), (Nat.le_of_ble_eq_true rfl)⟩) rfl (zrecv B (zat (by decide) (z0 _ _ _)) cl6) zid rfl (Nat.le_of_ble_eq_true rfl) dX6_phaseOf_6 ⟨(Nat.le_of_ble_eq_true rfl), (Nat.le_of_ble_eq_true rfl)⟩ (fun X9 hX9 => zx_out B htab (xb_inl hX2 hX9) zid (Nat.le_of_ble_eq_true rfl) (Nat.le_of_ble_eq_true rfl)) (fun v9 u2 hv9 => ?_)
  obtain ⟨hu2, rfl⟩ := hv9
  have hE3002 : (.inr (c (34 + 3 + 2 * (zn x)) 7) : String ⊕ Int32) = m_X6_phaseOf c x := by have h9 := xb_inr hX2 hu2; exact h9
  refine zv_st (st' := []) rfl ?_
  refine zv_aload_n (pc := 9) B 0 rfl dX6_phaseOf_9 ?_
  refine zv_get (pc := 10) (v := .ref (b + 34)) B (zat (by decide) (z0 _ _ _)) cl6 inX6 1 (by decide) wf_X6_21 rfl dX6_phaseOf_10 ?_
  refine zv_get (pc := 13) (v := .ref (b + (34 + 1))) B (zat (zTk.lt (Or.inl rfl) (k := 0) (by decide)) (zt_trk (Or.inl rfl) _ _ _)) cl4 inX4 1 (by decide) wf_X6_170 rfl dX6_phaseOf_13 ?_
  refine zv_get (pc := 16) (v := .ref (b + (34 + 2))) B (zat (zTk.lt (Or.inl rfl) (by decide)) (zt_chr (Or.inl rfl) _ _ _)) cl1 inX1 0 (by decide) wf_X6_198 rfl dX6_phaseOf_16 ?_
  refine zv_iload_n (pc := 19) B 1 rfl dX6_phaseOf_19 ?_
  refine zv_vald (pc := 20) (jj := (zn x)) (q1 := b + (34 + 3 + 2 * (zn x))) B (zat (zTk.lt (Or.inl rfl) (by decide)) (zt_vcs (Or.inl rfl) _ _ _)) (zn_eq x) hbx (by decide) (if_pos hbx) dX6_phaseOf_20 ?_
  refine zv_get (pc := 21) (v := .int (c (34 + 3 + 2 * (zn x)) 7)) B (zat (by have h9 : zn x < 4 := hbx; have := zTk.lt (Or.inl rfl) (k := 3 + 2 * (zn x)) (by omega); omega) (zt_vc (Or.inl rfl) hbx _ _ _)) cl5 inX5 7 (by decide) wf_X6_217 rfl dX6_phaseOf_21 ?_
  have hE3 : (.inr (c (34 + 3 + 2 * (zn x)) 7) : String ⊕ Int32) = m_X6_phaseOf c x := hE3002
  exact zx_iret (pc := 24) B (c (34 + 3 + 2 * (zn x)) 7) hr (fun H hP => ⟨c (34 + 3 + 2 * (zn x)) 7, ⟨hE3.symm, rfl⟩, hP⟩) (Nat.le_of_ble_eq_true rfl) (Nat.le_of_ble_eq_true rfl) dX6_phaseOf_24

def m_X6_stolen (c : Nat → Nat → Int32) : Int32 := c (34 + 1) 2
set_option maxRecDepth 100000 in
set_option maxHeartbeats 4000000 in
theorem k_X6_stolen (l : Launch) (E : zE) (b : Nat) (c : Nat → Nat → Int32) (w : Nat → Int64) (en : Nat → Nat) (ea : Nat → Nat → Int32)  (hg : zG c) : zM l yX6_stolen (.code yX6_stolen cX6_stolen 1 (some .int) :: zAll) (zRm 7 0 0) E b [.ref (b + 0)] (zH E b c w en ea) (fun v9 (_ : Unit) => v9 = some (.int (m_X6_stolen c))) (fun _ => zH E b c w en ea) 0 0 := by
  refine zM_of "ToneGraph" (by decide) rfl rfl (Nat.le_of_ble_eq_true rfl) (L0 := [(0, .ref (b + 0))]) rfl ?_
  intro p e s m args below meth c9 B hr hname
  refine zv_aload_n (pc := 0) B 0 rfl dX6_stolen_0 ?_
  refine zv_get (pc := 1) (v := .ref (b + 34)) B (zat (by decide) (z0 _ _ _)) cl6 inX6 1 (by decide) wf_X6_21 rfl dX6_stolen_1 ?_
  refine zv_get (pc := 4) (v := .ref (b + (34 + 1))) B (zat (zTk.lt (Or.inl rfl) (k := 0) (by decide)) (zt_trk (Or.inl rfl) _ _ _)) cl4 inX4 1 (by decide) wf_X6_170 rfl dX6_stolen_4 ?_
  refine zv_get (pc := 7) (v := .int (c (34 + 1) 2)) B (zat (zTk.lt (Or.inl rfl) (by decide)) (zt_chr (Or.inl rfl) _ _ _)) cl1 inX1 2 (by decide) wf_X6_220 rfl dX6_stolen_7 ?_
  have hE1 : c (34 + 1) 2 = m_X6_stolen c := (by unfold m_X6_stolen; rfl)
  exact zv_iret (pc := 10) B (c (34 + 1) 2) hr (fun H hP => ⟨(), (congrArg (fun z => some (Value.int z)) hE1), hP⟩) (Nat.le_of_ble_eq_true rfl) (Nat.le_of_ble_eq_true rfl) dX6_stolen_10

def m_X6_heard (c : Nat → Nat → Int32) (x : Int32) : String ⊕ Int32 := xb (m_X6_refuseOutside x 0 63) (fun u1 => if x < (c 106 1) then (.inr (m_X3_recall c x)) else (.inl "java/util/NoSuchElementException"))
set_option maxRecDepth 100000 in
set_option maxHeartbeats 4000000 in
theorem k_X6_heard (l : Launch) (E : zE) (b : Nat) (c : Nat → Nat → Int32) (w : Nat → Int64) (en : Nat → Nat) (ea : Nat → Nat → Int32) (x : Int32) (hg : zG c) (hlf : l.stackTraces = false) : zX l yX6_heard (.code yX6_heard cX6_heard 2 (some .int) :: zAll) (zRm 7 2 12) E b [.ref (b + 0), .int x] (zH E b c w en ea) (fun v9 (u9 : Int32) => (m_X6_heard c x) = .inr u9 ∧ v9 = some (.int u9)) (fun (u9 : Int32) => zH E b c w en ea) (fun X9 => (m_X6_heard c x) = .inl X9) 2 12 := by
  refine zX_of "ToneGraph" (by decide) rfl rfl (Nat.le_of_ble_eq_true rfl) (L0 := [(0, .ref (b + 0)), (1, .int x)]) rfl ?_
  intro p e s m args below meth c9 B hr htab
  refine zv_iload_n (pc := 0) B 1 rfl dX6_heard_0 ?_
  refine zv_iconst (pc := 1) (v := 0) B rfl dX6_heard_1 ?_
  refine zv_bipush (pc := 2) (v := 63) B rfl dX6_heard_2 ?_
  have hX1 : (xb (m_X6_refuseOutside x 0 63) (fun u1 => if x < (c 106 1) then (.inr (m_X3_recall c x)) else (.inl "java/util/NoSuchElementException")) : String ⊕ Int32) = m_X6_heard c x := (by unfold m_X6_heard; rfl)
  refine zv_callSX (pc := 4) (As := [.int x, .int 0, .int 63]) (rest := []) B (k_X6_refuseOutside l E b _ _ _ _  x 0 63 hlf) (zcwS 3 6 B wm_X6_55 ws_X6_refuseOutside wn_X6 wcode_X6_refuseOutside (by decide +kernel) ⟨(Nat.le_of_ble_eq_true rfl), (Nat.le_of_ble_eq_true rfl)⟩) rfl zid rfl (Nat.le_of_ble_eq_true rfl) dX6_heard_4 ⟨(Nat.le_of_ble_eq_true rfl), (Nat.le_of_ble_eq_true rfl)⟩ (fun X9 hX9 => zx_out B htab (xb_inl hX1 hX9) zid (Nat.le_of_ble_eq_true rfl) (Nat.le_of_ble_eq_true rfl)) (fun v9 u1 hv9 => ?_)
  obtain ⟨hu1, rfl⟩ := hv9
  have hE3001 : (if x < (c 106 1) then (.inr (m_X3_recall c x)) else (.inl "java/util/NoSuchElementException") : String ⊕ Int32) = m_X6_heard c x := by have h9 := xb_inr hX1 hu1; exact h9
  refine zv_st (st' := []) rfl ?_
  have hrx := ro_rng hu1 (a := 0) (b' := 63) rfl rfl (by decide) (by decide)
  have hbx : zn x < 64 := by omega
  refine zv_iload_n (pc := 7) B 1 rfl dX6_heard_7 ?_
  refine zv_aload_n (pc := 8) B 0 rfl dX6_heard_8 ?_
  refine zv_get (pc := 9) (v := .ref (b + 106)) B (zat (by decide) (z0 _ _ _)) cl6 inX6 3 (by decide) wf_X6_31 rfl dX6_heard_9 ?_
  refine zv_get (pc := 12) (v := .int (c 106 1)) B (zat (by decide) (z106 _ _ _)) cl3 inX3 1 (by decide) wf_X6_230 rfl dX6_heard_12 ?_
  refine zv_icmp_lt (pc := 15) (tgt := 28) B dX6_heard_15 rfl (fun h2 => ?_) (fun h2 => ?_)
  · refine zv_aload_n (pc := 28) B 0 rfl dX6_heard_28 ?_
    refine zv_get (pc := 29) (v := .ref (b + 106)) B (zat (by decide) (z0 _ _ _)) cl6 inX6 3 (by decide) wf_X6_31 rfl dX6_heard_29 ?_
    refine zv_iload_n (pc := 32) B 1 rfl dX6_heard_32 ?_
    refine zv_callV (pc := 33) (As := [.int x]) (rest := []) B (k_X3_recall l E b _ _ _ _  x) (zcwV 1 0 B wm_X6_233 wi_X3_recall wv_X3_recall wn_X3 wcode_X3_recall rfl (by decide +kernel) ⟨(Nat.le_of_ble_eq_true rfl), (Nat.le_of_ble_eq_true rfl)⟩) rfl (zrecv B (zat (by decide) (z106 _ _ _)) cl3) zid rfl (Nat.le_of_ble_eq_true rfl) dX6_heard_33 ⟨(Nat.le_of_ble_eq_true rfl), (Nat.le_of_ble_eq_true rfl)⟩ (fun v9 u9 hv9 => ?_)
    subst hv9
    refine zv_st (st' := [.int (m_X3_recall c x)]) rfl ?_
    have hE3 : (.inr (m_X3_recall c x) : String ⊕ Int32) = m_X6_heard c x := (Eq.trans (by rw [if_pos h2]) hE3001)
    exact zx_iret (pc := 36) B ((m_X3_recall c x)) hr (fun H hP => ⟨(m_X3_recall c x), ⟨hE3.symm, rfl⟩, hP⟩) (Nat.le_of_ble_eq_true rfl) (Nat.le_of_ble_eq_true rfl) dX6_heard_36
  · have hE4 : (.inl "java/util/NoSuchElementException" : String ⊕ Int32) = m_X6_heard c x := (Eq.trans (by rw [if_neg h2]) hE3001)
    exact zx_throwN (pc := 18) (j := 7) B hlf htab rfl hE4.symm dX6_heard_18 dX6_heard_21 dX6_heard_22 dX6_heard_24 dX6_heard_27 (Nat.le_of_ble_eq_true rfl) (Nat.le_of_ble_eq_true rfl) (Nat.le_of_ble_eq_true rfl) (Nat.le_of_ble_eq_true rfl) (Nat.le_of_ble_eq_true rfl) (Nat.le_of_ble_eq_true rfl) (fun H H1 h hq => zH.kept H H1 h hq)

def m_X6_outputOf (c : Nat → Nat → Int32) (x : Int32) : String ⊕ Int32 := xb (m_X6_refuseNoNode c x) (fun u1 => .inr (c (34 + 22) (zn x)))
set_option maxRecDepth 100000 in
set_option maxHeartbeats 4000000 in
theorem k_X6_outputOf (l : Launch) (E : zE) (b : Nat) (c : Nat → Nat → Int32) (w : Nat → Int64) (en : Nat → Nat) (ea : Nat → Nat → Int32) (x : Int32) (hg : zG c) (hlf : l.stackTraces = false) : zX l yX6_outputOf (.code yX6_outputOf cX6_outputOf 2 (some .int) :: zAll) (zRm 7 1 6) E b [.ref (b + 0), .int x] (zH E b c w en ea) (fun v9 (u9 : Int32) => (m_X6_outputOf c x) = .inr u9 ∧ v9 = some (.int u9)) (fun (u9 : Int32) => zH E b c w en ea) (fun X9 => (m_X6_outputOf c x) = .inl X9) 1 6 := by
  refine zX_of "ToneGraph" (by decide) rfl rfl (Nat.le_of_ble_eq_true rfl) (L0 := [(0, .ref (b + 0)), (1, .int x)]) rfl ?_
  intro p e s m args below meth c9 B hr htab
  refine zv_aload_n (pc := 0) B 0 rfl dX6_outputOf_0 ?_
  refine zv_iload_n (pc := 1) B 1 rfl dX6_outputOf_1 ?_
  have hX1 : (xb (m_X6_refuseNoNode c x) (fun u1 => .inr (c (34 + 22) (zn x))) : String ⊕ Int32) = m_X6_outputOf c x := (by unfold m_X6_outputOf; rfl)
  refine zv_callVX (pc := 2) (As := [.int x]) (rest := []) B (k_X6_refuseNoNode l E b _ _ _ _  x hg hlf) (zcwV 1 6 B wm_X6_87 wi_X6_refuseNoNode wv_X6_refuseNoNode wn_X6 wcode_X6_refuseNoNode rfl (by decide +kernel) ⟨(Nat.le_of_ble_eq_true rfl), (Nat.le_of_ble_eq_true rfl)⟩) rfl (zrecv B (zat (by decide) (z0 _ _ _)) cl6) zid rfl (Nat.le_of_ble_eq_true rfl) dX6_outputOf_2 ⟨(Nat.le_of_ble_eq_true rfl), (Nat.le_of_ble_eq_true rfl)⟩ (fun X9 hX9 => zx_out B htab (xb_inl hX1 hX9) zid (Nat.le_of_ble_eq_true rfl) (Nat.le_of_ble_eq_true rfl)) (fun v9 u1 hv9 => ?_)
  obtain ⟨hu1, rfl⟩ := hv9
  have hE3001 : (.inr (c (34 + 22) (zn x)) : String ⊕ Int32) = m_X6_outputOf c x := by have h9 := xb_inr hX1 hu1; exact h9
  refine zv_st (st' := []) rfl ?_
  have hnx := rn_ok hg hu1
  have hbx : zn x < 10 := by have := (show zn (c 1 0) ≤ 10 from hg 1 0); omega
  refine zv_aload_n (pc := 5) B 0 rfl dX6_outputOf_5 ?_
  refine zv_get (pc := 6) (v := .ref (b + 34)) B (zat (by decide) (z0 _ _ _)) cl6 inX6 1 (by decide) wf_X6_21 rfl dX6_outputOf_6 ?_
  refine zv_get (pc := 9) (v := .ref (b + (34 + 22))) B (zat (zTk.lt (Or.inl rfl) (k := 0) (by decide)) (zt_trk (Or.inl rfl) _ _ _)) cl4 inX4 3 (by decide) wf_X6_236 rfl dX6_outputOf_9 ?_
  refine zv_iload_n (pc := 12) B 1 rfl dX6_outputOf_12 ?_
  refine zv_iald (pc := 13) (jj := (zn x)) B (zat (zTk.lt (Or.inl rfl) (by decide)) (zt_lat (Or.inl rfl) _ _ _)) (zn_eq x) hbx (by decide) dX6_outputOf_13 ?_
  have hE2 : (.inr (c (34 + 22) (zn x)) : String ⊕ Int32) = m_X6_outputOf c x := hE3001
  exact zx_iret (pc := 14) B (c (34 + 22) (zn x)) hr (fun H hP => ⟨c (34 + 22) (zn x), ⟨hE2.symm, rfl⟩, hP⟩) (Nat.le_of_ble_eq_true rfl) (Nat.le_of_ble_eq_true rfl) dX6_outputOf_14

def m_X6_time (c : Nat → Nat → Int32) : Int32 := c 106 1
set_option maxRecDepth 100000 in
set_option maxHeartbeats 4000000 in
theorem k_X6_time (l : Launch) (E : zE) (b : Nat) (c : Nat → Nat → Int32) (w : Nat → Int64) (en : Nat → Nat) (ea : Nat → Nat → Int32)  (hg : zG c) : zM l yX6_time (.code yX6_time cX6_time 1 (some .int) :: zAll) (zRm 7 0 0) E b [.ref (b + 0)] (zH E b c w en ea) (fun v9 (_ : Unit) => v9 = some (.int (m_X6_time c))) (fun _ => zH E b c w en ea) 0 0 := by
  refine zM_of "ToneGraph" (by decide) rfl rfl (Nat.le_of_ble_eq_true rfl) (L0 := [(0, .ref (b + 0))]) rfl ?_
  intro p e s m args below meth c9 B hr hname
  refine zv_aload_n (pc := 0) B 0 rfl dX6_time_0 ?_
  refine zv_get (pc := 1) (v := .ref (b + 106)) B (zat (by decide) (z0 _ _ _)) cl6 inX6 3 (by decide) wf_X6_31 rfl dX6_time_1 ?_
  refine zv_get (pc := 4) (v := .int (c 106 1)) B (zat (by decide) (z106 _ _ _)) cl3 inX3 1 (by decide) wf_X6_230 rfl dX6_time_4 ?_
  have hE1 : c 106 1 = m_X6_time c := (by unfold m_X6_time; rfl)
  exact zv_iret (pc := 7) B (c 106 1) hr (fun H hP => ⟨(), (congrArg (fun z => some (Value.int z)) hE1), hP⟩) (Nat.le_of_ble_eq_true rfl) (Nat.le_of_ble_eq_true rfl) dX6_time_7

def m_X6_greatest (c : Nat → Nat → Int32) : Int32 := c 106 2
set_option maxRecDepth 100000 in
set_option maxHeartbeats 4000000 in
theorem k_X6_greatest (l : Launch) (E : zE) (b : Nat) (c : Nat → Nat → Int32) (w : Nat → Int64) (en : Nat → Nat) (ea : Nat → Nat → Int32)  (hg : zG c) : zM l yX6_greatest (.code yX6_greatest cX6_greatest 1 (some .int) :: zAll) (zRm 7 0 0) E b [.ref (b + 0)] (zH E b c w en ea) (fun v9 (_ : Unit) => v9 = some (.int (m_X6_greatest c))) (fun _ => zH E b c w en ea) 0 0 := by
  refine zM_of "ToneGraph" (by decide) rfl rfl (Nat.le_of_ble_eq_true rfl) (L0 := [(0, .ref (b + 0))]) rfl ?_
  intro p e s m args below meth c9 B hr hname
  refine zv_aload_n (pc := 0) B 0 rfl dX6_greatest_0 ?_
  refine zv_get (pc := 1) (v := .ref (b + 106)) B (zat (by decide) (z0 _ _ _)) cl6 inX6 3 (by decide) wf_X6_31 rfl dX6_greatest_1 ?_
  refine zv_get (pc := 4) (v := .int (c 106 2)) B (zat (by decide) (z106 _ _ _)) cl3 inX3 2 (by decide) wf_X6_239 rfl dX6_greatest_4 ?_
  have hE1 : c 106 2 = m_X6_greatest c := (by unfold m_X6_greatest; rfl)
  exact zv_iret (pc := 7) B (c 106 2) hr (fun H hP => ⟨(), (congrArg (fun z => some (Value.int z)) hE1), hP⟩) (Nat.le_of_ble_eq_true rfl) (Nat.le_of_ble_eq_true rfl) dX6_greatest_7

def m_X6_energy (w : Nat → Int64) : Int64 := w 106
set_option maxRecDepth 100000 in
set_option maxHeartbeats 4000000 in
theorem k_X6_energy (l : Launch) (E : zE) (b : Nat) (c : Nat → Nat → Int32) (w : Nat → Int64) (en : Nat → Nat) (ea : Nat → Nat → Int32)  : zM l yX6_energy (.code yX6_energy cX6_energy 1 (some .long) :: zAll) (zRm 7 0 0) E b [.ref (b + 0)] (zH E b c w en ea) (fun v9 (_ : Unit) => v9 = some (.long (m_X6_energy w))) (fun _ => zH E b c w en ea) 0 0 := by
  refine zM_of "ToneGraph" (by decide) rfl rfl (Nat.le_of_ble_eq_true rfl) (L0 := [(0, .ref (b + 0))]) rfl ?_
  intro p e s m args below meth c9 B hr hname
  refine zv_aload_n (pc := 0) B 0 rfl dX6_energy_0 ?_
  refine zv_get (pc := 1) (v := .ref (b + 106)) B (zat (by decide) (z0 _ _ _)) cl6 inX6 3 (by decide) wf_X6_31 rfl dX6_energy_1 ?_
  refine zv_get (pc := 4) (v := .long (w 106)) B (zat (by decide) (z106 _ _ _)) cl3 inX3 3 (by decide) wf_X6_242 rfl dX6_energy_4 ?_
  have hE1 : w 106 = m_X6_energy w := (by unfold m_X6_energy; rfl)
  exact zv_lret (pc := 7) B (w 106) hr (fun H hP => ⟨(), (congrArg (fun z => some (Value.long z)) hE1), hP⟩) (Nat.le_of_ble_eq_true rfl) (Nat.le_of_ble_eq_true rfl) dX6_energy_7
