theorem zLv.sings {T : Nat} {c : Nat → Nat → Int32} (h : zLv T (c 112)) {v : Nat} (hv : v < 4) (hT : T < 2 ^ 30) : zLv (T + 1) ((m_X7_sings c v).2 112) := by
  have h1 : ∀ x, zLv T (m_X7_lay c v 9 x 112) := fun x => h.lay (v := v) (k := 9) x (by decide) (by decide)
  have h2 : ∀ x, zn (m_X7_at (m_X7_lay c v 9 x) v 10) ≤ T := fun x => (h1 x v hv).2.1
  unfold m_X7_sings
  split
  · exact h.mono (by omega)
  · split
    · exact zLv.had ((h1 _).mono (by omega)) (zn_inc (Nat.lt_succ_of_le (h2 _)) (by omega))
    · split
      · exact (zLv.off ((h1 _).lay _ (by decide) (by decide))).mono (by omega)
      · exact ((h1 _).lay _ (by decide) (by decide)).mono (by omega)
def g1_X7_sung (c : Nat → Nat → Int32)  : Nat → Nat → Int32 → (Nat → Nat → Int32) → (Nat → Int32 → (Nat → Nat → Int32) → Int32 × (Nat → Nat → Int32)) → Int32 × (Nat → Nat → Int32)
  | 0, i, x, c1, K => K i x c1
  | n + 1, i, x, c1, K => g1_X7_sung c n (i + 1) (x + ((m_X7_sings c1 i).1)) ((m_X7_sings c1 i).2) K
def m_X7_sung (c : Nat → Nat → Int32) : Int32 × (Nat → Nat → Int32) := g1_X7_sung c 4 0 0 c (fun i x c1 => (x, c1))
set_option maxRecDepth 100000 in
set_option maxHeartbeats 400000 in
theorem k_X7_sung (l : Launch) (E : zE) (b : Nat) (c : Nat → Nat → Int32) (w : Nat → Int64) (en : Nat → Nat) (ea : Nat → Nat → Int32) {T : Nat} (hT : T + 4 < 2 ^ 30) (hL : zLv T (c 112)) (hg : zG c) : zM l yX7_sung (.code yX7_sung cX7_sung 3 (some .int) :: zAll) (zRm 5 0 0) E b [.ref (b + 111)] (zH E b c w en ea) (fun v9 (_ : Unit) => v9 = some (.int (m_X7_sung c).1) ∧ zfr 112 113 112 112 c (m_X7_sung c).2 ∧ zG (m_X7_sung c).2) (fun _ => zH E b ((m_X7_sung c).2) w en ea) 0 0 := by
  refine zM_of "ToneGraphModel" (by decide) rfl rfl (Nat.le_of_ble_eq_true rfl) (L0 := [(0, .ref (b + 111))]) rfl ?_
  intro p e s m args below meth c9 B hr hname
  refine zv_iconst (pc := 0) (v := 0) B rfl dX7_sung_0 ?_
  refine zv_istore_n (pc := 1) (L' := [(1, .int 0), (0, .ref (b + 111))]) B (by decide) rfl dX7_sung_1 ?_
  refine zv_iconst (pc := 2) (v := 0) B rfl dX7_sung_2 ?_
  refine zv_istore_n (pc := 3) (L' := [(2, .int 0), (1, .int 0), (0, .ref (b + 111))]) B (by decide) rfl dX7_sung_3 ?_
  have loop1 : ∀ (K : Nat → Int32 → (Nat → Nat → Int32) → Int32 × (Nat → Nat → Int32)) (n : Nat) (i : Nat) (x : Int32) (c1 : Nat → Nat → Int32), zfr 112 113 112 112 c c1 → zG c1 → zLv (T + i) (c1 112) → i + n = 4 → g1_X7_sung c n i x c1 K = m_X7_sung c → (∀ (i : Nat) (x : Int32) (c1 : Nat → Nat → Int32), zfr 112 113 112 112 c c1 → zG c1 → zLv (T + i) (c1 112) → i ≤ 4 → K i x c1 = m_X7_sung c → zV p l e (zRm 5 0 0) s m args below meth c9 (MQ below (zQ b (fun v9 (_ : Unit) => v9 = some (.int (m_X7_sung c).1) ∧ zfr 112 113 112 112 c (m_X7_sung c).2 ∧ zG (m_X7_sung c).2) (fun _ => zH E b ((m_X7_sung c).2) w en ea)) args s 0 0 (zA b)) 3 b (zH E b c1 w en ea) 23 [(0, .ref (b + 111)), (2, .int (nI i)), (1, .int x)] [] 0 0) → zV p l e (zRm 5 0 0) s m args below meth c9 (MQ below (zQ b (fun v9 (_ : Unit) => v9 = some (.int (m_X7_sung c).1) ∧ zfr 112 113 112 112 c (m_X7_sung c).2 ∧ zG (m_X7_sung c).2) (fun _ => zH E b ((m_X7_sung c).2) w en ea)) args s 0 0 (zA b)) 3 b (zH E b c1 w en ea) 4 [(0, .ref (b + 111)), (2, .int (nI i)), (1, .int x)] [] 0 0 := by
    intro K n
    induction n with
    | zero =>
      intro i x c1 hF1 hg1 hL9 hi hE901 hK
      refine zv_iload_n (pc := 4) B 1 rfl dX7_sung_4 ?_
      refine zv_iconst (pc := 5) (v := 4) B rfl dX7_sung_5 ?_
      refine zv_icmp_ge (pc := 6) (tgt := 23) B dX7_sung_6 rfl (fun _ => ?_) (fun h9 => absurd ((z_le (a := 4) (b := i) rfl rfl (by omega) (by omega)).mpr (by omega)) h9)
      exact hK i x c1 hF1 hg1 hL9 (by omega) (Eq.trans (by rw [g1_X7_sung]) hE901)
    | succ n ih =>
      intro i x c1 hF1 hg1 hL9 hi hE901 hK
      refine zv_iload_n (pc := 4) B 1 rfl dX7_sung_4 ?_
      refine zv_iconst (pc := 5) (v := 4) B rfl dX7_sung_5 ?_
      refine zv_icmp_ge (pc := 6) (tgt := 23) B dX7_sung_6 rfl (fun h9 => absurd h9 (fun q9 => absurd ((z_le (a := 4) (b := i) rfl rfl (by omega) (by omega)).mp q9) (by omega))) (fun _ => ?_)
      refine zv_iload_n (pc := 9) B 2 rfl dX7_sung_9 ?_
      refine zv_aload_n (pc := 10) B 0 rfl dX7_sung_10 ?_
      refine zv_iload_n (pc := 11) B 1 rfl dX7_sung_11 ?_
      refine zv_callV (pc := 12) (As := [.int (nI i)]) (rest := [.int x]) B (k_X7_sings l E b _ _ _ _  (by omega) (by omega) hL9 hg1) (zcwV 1 4 B wm_X7_177 wi_X7_sings wv_X7_sings wn_X7 wcode_X7_sings rfl (by decide +kernel) ⟨(Nat.le_of_ble_eq_true rfl), (Nat.le_of_ble_eq_true rfl)⟩) rfl (zrecv B (zat (by decide) (z111 _ _ _)) cl7) zid rfl (Nat.le_of_ble_eq_true rfl) dX7_sung_12 ⟨(Nat.le_of_ble_eq_true rfl), (Nat.le_of_ble_eq_true rfl)⟩ (fun v9 u9 hv9 => ?_)
      obtain ⟨rfl, hF2003, hg2003⟩ := hv9
      refine zv_st (st' := [.int ((m_X7_sings c1 i).1), .int x]) rfl ?_
      refine zv_iadd (pc := 15) B dX7_sung_15 ?_
      refine zv_istore_n (pc := 16) (L' := [(1, .int (x + ((m_X7_sings c1 i).1))), (0, .ref (b + 111)), (2, .int (nI i))]) B (by decide) rfl dX7_sung_16 ?_
      refine zv_iinc (pc := 17) (v := nI (i + 1)) (L' := [(2, .int (nI (i + 1))), (1, .int (x + ((m_X7_sings c1 i).1))), (0, .ref (b + 111))]) B 2 rfl (nI_1 _) (by decide) rfl dX7_sung_17 ?_
      refine zv_goto (pc := 20) (tgt := 4) B rfl dX7_sung_20 ?_
      refine zv_loc (L' := [(0, .ref (b + 111)), (2, .int (nI (i + 1))), (1, .int (x + ((m_X7_sings c1 i).1)))]) [2, 0, 1] rfl ?_
      exact ih (i + 1) (x + ((m_X7_sings c1 i).1)) ((m_X7_sings c1 i).2) (zfr.call hF1 hF2003 (by omega)) hg2003 (zLv.sings hL9 (by omega) (by omega)) (by omega) (Eq.trans (by rw [g1_X7_sung]) hE901) hK
  refine zv_loc (L' := [(0, .ref (b + 111)), (2, .int 0), (1, .int 0)]) [2, 0, 1] rfl ?_
  refine loop1 (fun i x c1 => (x, c1)) 4 0 0 c zfr.refl hg hL (by omega) (by unfold m_X7_sung; rfl) ?_
  intro i x c1 hF1 hg1 hL9 hx
  intro (hE951 : (x, c1) = m_X7_sung c)
  refine zv_iload_n (pc := 23) B 2 rfl dX7_sung_23 ?_
  have hE4 : (x, c1) = m_X7_sung c := hE951
  exact zv_iret (pc := 24) B (x) hr (fun H hP => ⟨(), ⟨(by rw [(zp2 hE4).1]), (by rw [(zp2 hE4).2]; exact hF1), (by rw [(zp2 hE4).2]; exact hg1)⟩, (by rw [(zp2 hE4).2]; exact hP)⟩) (Nat.le_of_ble_eq_true rfl) (Nat.le_of_ble_eq_true rfl) dX7_sung_24
