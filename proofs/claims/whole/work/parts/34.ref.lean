theorem ck_f (c : Nat → Nat → Int32) (x : Int32) {k : Nat} (h : k ≠ 12) : (m_X7_checked c x).2 111 k = c 111 k := by
  unfold m_X7_checked
  by_cases q : x = 0
  · rw [if_pos q]; show zup c 111 12 1 111 k = _; exact zup_k _ _ h
  · rw [if_neg q]; show zup c 111 12 0 111 k = _; exact zup_k _ _ h
theorem pn_f (c : Nat → Nat → Int32) (x : Int32) {k : Nat} (h : k ≠ 12) : (m_X7_plain c x).2 111 k = c 111 k := by
  unfold m_X7_plain
  show zup c 111 12 0 111 k = _; exact zup_k _ _ h
theorem ck1 (c : Nat → Nat → Int32) : ¬ (m_X7_checked c 0).1 ≤ 0 := by
  unfold m_X7_checked
  rw [if_pos rfl]; show ¬ (1 : Int32) ≤ 0; decide
theorem ck0 (c : Nat → Nat → Int32) : (m_X7_checked c 1).1 ≤ 0 := by
  unfold m_X7_checked
  rw [if_neg (by decide)]; show (0 : Int32) ≤ 0; decide
def g1_X7_play (c : Nat → Nat → Int32) (w : Nat → Int64) (x : Int32)  : Nat → Nat → Int32 → (Nat → Nat → Int32) → (Nat → Int64) → (Nat → Int32 → (Nat → Nat → Int32) → (Nat → Int64) → Int32 × (Nat → Nat → Int32) × (Nat → Int64)) → Int32 × (Nat → Nat → Int32) × (Nat → Int64)
  | 0, i, y, c1, w1, K => K i y c1 w1
  | n + 1, i, y, c1, w1, K => g1_X7_play c w x n (i + 1) ((m_X7_sampled c1 w1).1) ((m_X7_sampled c1 w1).2.1) ((m_X7_sampled c1 w1).2.2) K
def m_X7_play (c : Nat → Nat → Int32) (w : Nat → Int64) (x : Int32) : Int32 × (Nat → Nat → Int32) × (Nat → Int64) := if ((m_X7_checked c (r_X7_in x 1 64)).1) ≤ 0 then (g1_X7_play c w x (zn x) 0 0 ((m_X7_checked c (r_X7_in x 1 64)).2) w (fun i y c1 w1 => (y, c1, w1))) else (0, (m_X7_checked c (r_X7_in x 1 64)).2, w)
set_option maxRecDepth 100000 in
set_option maxHeartbeats 400000 in
theorem k_X7_play (l : Launch) (E : zE) (b : Nat) (c : Nat → Nat → Int32) (w : Nat → Int64) (en : Nat → Nat) (ea : Nat → Nat → Int32) (x : Int32) {T : Nat} (hT : T + 2860 < 2 ^ 30) (hL : zLv T (c 112)) (hD : ∀ k, k < 10 → c 114 k = 2 → 1 ≤ zn (c 115 k) ∧ zn (c 115 k) ≤ 60) (ht : zn (c 111 22) + 64 < 2 ^ 31) (hg : zG c) : zM l yX7_play (.code yX7_play cX7_play 4 (some .int) :: zAll) (zRm 9 0 0) E b [.ref (b + 111), .int x] (zH E b c w en ea) (fun v9 (_ : Unit) => v9 = some (.int (m_X7_play c w x).1) ∧ zfr 111 113 122 123 c (m_X7_play c w x).2.1 ∧ zG (m_X7_play c w x).2.1 ∧ zLv (T + 2816) ((m_X7_play c w x).2.1 112) ∧ zn ((m_X7_play c w x).2.1 111 22) ≤ zn (c 111 22) + 64) (fun _ => zH E b ((m_X7_play c w x).2.1) ((m_X7_play c w x).2.2) en ea) 0 0 := by
  refine zM_of "ToneGraphModel" (by decide) rfl rfl (Nat.le_of_ble_eq_true rfl) (L0 := [(0, .ref (b + 111)), (1, .int x)]) rfl ?_
  intro p e s m args below meth c9 B hr hname
  refine zv_aload_n (pc := 0) B 0 rfl dX7_play_0 ?_
  refine zv_iload_n (pc := 1) B 1 rfl dX7_play_1 ?_
  refine zv_iconst (pc := 2) (v := 1) B rfl dX7_play_2 ?_
  refine zv_bipush (pc := 3) (v := 64) B rfl dX7_play_3 ?_
  refine zv_callS (pc := 5) (As := [.int x, .int 1, .int 64]) (rest := [.ref (b + 111)]) B (k_X7_in l E b x 1 64) (zcwS 3 0 B wm_X7_94 ws_X7_in wn_X7 wcode_X7_in (by decide +kernel) ⟨(Nat.le_of_ble_eq_true rfl), (Nat.le_of_ble_eq_true rfl)⟩) rfl zid rfl (Nat.le_of_ble_eq_true rfl) dX7_play_5 ⟨(Nat.le_of_ble_eq_true rfl), (Nat.le_of_ble_eq_true rfl)⟩ (fun v9 u9 hv9 => ?_)
  subst hv9
  refine zv_st (st' := [.int (r_X7_in x 1 64), .ref (b + 111)]) rfl ?_
  refine zv_callV (pc := 8) (As := [.int (r_X7_in x 1 64)]) (rest := []) B (k_X7_checked l E b _ _ _ _  (r_X7_in x 1 64) hg) (zcwV 1 0 B wm_X7_121 wi_X7_checked wv_X7_checked wn_X7 wcode_X7_checked rfl (by decide +kernel) ⟨(Nat.le_of_ble_eq_true rfl), (Nat.le_of_ble_eq_true rfl)⟩) rfl (zrecv B (zat (by decide) (z111 _ _ _)) cl7) zid rfl (Nat.le_of_ble_eq_true rfl) dX7_play_8 ⟨(Nat.le_of_ble_eq_true rfl), (Nat.le_of_ble_eq_true rfl)⟩ (fun v9 u9 hv9 => ?_)
  obtain ⟨rfl, hF2001, hg2001⟩ := hv9
  refine zv_st (st' := [.int ((m_X7_checked c (r_X7_in x 1 64)).1)]) rfl ?_
  refine zv_if_le (pc := 11) (tgt := 16) B dX7_play_11 rfl (fun h2 => ?_) (fun h2 => ?_)
  · have hi9 := in_ok (ck_le h2)
    have hrx := zn_rng (a := 1) (b' := 64) rfl rfl (by decide) (by decide) hi9.1 hi9.2
    refine zv_iconst (pc := 16) (v := 0) B rfl dX7_play_16 ?_
    refine zv_istore_n (pc := 17) (L' := [(2, .int 0), (0, .ref (b + 111)), (1, .int x)]) B (by decide) rfl dX7_play_17 ?_
    refine zv_iconst (pc := 18) (v := 0) B rfl dX7_play_18 ?_
    refine zv_istore_n (pc := 19) (L' := [(3, .int 0), (2, .int 0), (0, .ref (b + 111)), (1, .int x)]) B (by decide) rfl dX7_play_19 ?_
    have loop1 : ∀ (K : Nat → Int32 → (Nat → Nat → Int32) → (Nat → Int64) → Int32 × (Nat → Nat → Int32) × (Nat → Int64)) (n : Nat) (i : Nat) (y : Int32) (c1 : Nat → Nat → Int32) (w1 : Nat → Int64), zfr 111 113 122 123 c c1 → zG c1 → zLv (T + 44 * i) (c1 112) → zn (c1 111 22) ≤ zn (c 111 22) + i → i + n = zn x → g1_X7_play c w x n i y c1 w1 K = m_X7_play c w x → (∀ (i : Nat) (y : Int32) (c1 : Nat → Nat → Int32) (w1 : Nat → Int64), zfr 111 113 122 123 c c1 → zG c1 → zLv (T + 44 * i) (c1 112) → zn (c1 111 22) ≤ zn (c 111 22) + i → i ≤ zn x → K i y c1 w1 = m_X7_play c w x → zV p l e (zRm 9 0 0) s m args below meth c9 (MQ below (zQ b (fun v9 (_ : Unit) => v9 = some (.int (m_X7_play c w x).1) ∧ zfr 111 113 122 123 c (m_X7_play c w x).2.1 ∧ zG (m_X7_play c w x).2.1 ∧ zLv (T + 2816) ((m_X7_play c w x).2.1 112) ∧ zn ((m_X7_play c w x).2.1 111 22) ≤ zn (c 111 22) + 64) (fun _ => zH E b ((m_X7_play c w x).2.1) ((m_X7_play c w x).2.2) en ea)) args s 0 0 (zA b)) 4 b (zH E b c1 w1 en ea) 36 [(0, .ref (b + 111)), (1, .int x), (3, .int (nI i)), (2, .int y)] [] 0 0) → zV p l e (zRm 9 0 0) s m args below meth c9 (MQ below (zQ b (fun v9 (_ : Unit) => v9 = some (.int (m_X7_play c w x).1) ∧ zfr 111 113 122 123 c (m_X7_play c w x).2.1 ∧ zG (m_X7_play c w x).2.1 ∧ zLv (T + 2816) ((m_X7_play c w x).2.1 112) ∧ zn ((m_X7_play c w x).2.1 111 22) ≤ zn (c 111 22) + 64) (fun _ => zH E b ((m_X7_play c w x).2.1) ((m_X7_play c w x).2.2) en ea)) args s 0 0 (zA b)) 4 b (zH E b c1 w1 en ea) 20 [(0, .ref (b + 111)), (1, .int x), (3, .int (nI i)), (2, .int y)] [] 0 0 := by
      intro K n
      induction n with
      | zero =>
        intro i y c1 w1 hF1 hg1 hL9 hT9 hi hE901 hK
        refine zv_iload_n (pc := 20) B 2 rfl dX7_play_20 ?_
        refine zv_iload_n (pc := 21) B 1 rfl dX7_play_21 ?_
        refine zv_icmp_ge (pc := 22) (tgt := 36) B dX7_play_22 rfl (fun _ => ?_) (fun h9 => absurd ((z_le (a := (zn x)) (b := i) (zn_eq x) rfl (by omega) (by omega)).mpr (by omega)) h9)
        exact hK i y c1 w1 hF1 hg1 hL9 hT9 (by omega) (Eq.trans (by rw [g1_X7_play]) hE901)
      | succ n ih =>
        intro i y c1 w1 hF1 hg1 hL9 hT9 hi hE901 hK
        refine zv_iload_n (pc := 20) B 2 rfl dX7_play_20 ?_
        refine zv_iload_n (pc := 21) B 1 rfl dX7_play_21 ?_
        refine zv_icmp_ge (pc := 22) (tgt := 36) B dX7_play_22 rfl (fun h9 => absurd h9 (fun q9 => absurd ((z_le (a := (zn x)) (b := i) (zn_eq x) rfl (by omega) (by omega)).mp q9) (by omega))) (fun _ => ?_)
        refine zv_aload_n (pc := 25) B 0 rfl dX7_play_25 ?_
        refine zv_callV (pc := 26) (As := []) (rest := []) B (k_X7_sampled l E b _ _ _ _  (T := T + 44 * i) (by omega) hL9 (by rw [hF1 114 (by omega), hF1 115 (by omega)]; exact hD) (by omega) hg1) (zcwV 0 8 B wm_X7_204 wi_X7_sampled wv_X7_sampled wn_X7 wcode_X7_sampled rfl (by decide +kernel) ⟨(Nat.le_of_ble_eq_true rfl), (Nat.le_of_ble_eq_true rfl)⟩) rfl (zrecv B (zat (by decide) (z111 _ _ _)) cl7) zid rfl (Nat.le_of_ble_eq_true rfl) dX7_play_26 ⟨(Nat.le_of_ble_eq_true rfl), (Nat.le_of_ble_eq_true rfl)⟩ (fun v9 u9 hv9 => ?_)
        obtain ⟨rfl, hF2005, hg2005, hx2005⟩ := hv9
        refine zv_st (st' := [.int ((m_X7_sampled c1 w1).1)]) rfl ?_
        refine zv_istore_n (pc := 29) (L' := [(2, .int ((m_X7_sampled c1 w1).1)), (0, .ref (b + 111)), (1, .int x), (3, .int (nI i))]) B (by decide) rfl dX7_play_29 ?_
        refine zv_iinc (pc := 30) (v := nI (i + 1)) (L' := [(3, .int (nI (i + 1))), (2, .int ((m_X7_sampled c1 w1).1)), (0, .ref (b + 111)), (1, .int x)]) B 3 rfl (nI_1 _) (by decide) rfl dX7_play_30 ?_
        refine zv_goto (pc := 33) (tgt := 20) B rfl dX7_play_33 ?_
        refine zv_loc (L' := [(0, .ref (b + 111)), (1, .int x), (3, .int (nI (i + 1))), (2, .int ((m_X7_sampled c1 w1).1))]) [2, 3, 0, 1] rfl ?_
        exact ih (i + 1) ((m_X7_sampled c1 w1).1) ((m_X7_sampled c1 w1).2.1) ((m_X7_sampled c1 w1).2.2) (zfr.call hF1 hF2005 (by omega)) hg2005 (zLv.mono hx2005.1 (by omega)) (by have h8 := hx2005.2; omega) (by omega) (Eq.trans (by rw [g1_X7_play]) hE901) hK
    refine zv_loc (L' := [(0, .ref (b + 111)), (1, .int x), (3, .int 0), (2, .int 0)]) [2, 3, 0, 1] rfl ?_
    refine loop1 (fun i y c1 w1 => (y, c1, w1)) (zn x) 0 0 ((m_X7_checked c (r_X7_in x 1 64)).2) w (zfr.call zfr.refl hF2001 (by omega)) hg2001 (by rw [hF2001 112 (by omega)]; exact hL) (by rw [ck_f _ _ (by decide)]; exact Nat.le_refl _) (by omega) (by unfold m_X7_play; rw [if_pos h2]) ?_
    intro i y c1 w1 hF1 hg1 hL9 hT9 hx
    intro (hE951 : (y, c1, w1) = m_X7_play c w x)
    refine zv_iload_n (pc := 36) B 3 rfl dX7_play_36 ?_
    have hE6 : (y, c1, w1) = m_X7_play c w x := hE951
    exact zv_iret (pc := 37) B (y) hr (fun H hP => ⟨(), ⟨(by rw [(zp3 hE6).1]), (by rw [(zp3 hE6).2.1]; exact hF1), (by rw [(zp3 hE6).2.1]; exact hg1), (by rw [(zp3 hE6).2.1]; exact ⟨hL9.mono (by omega), by omega⟩)⟩, (by rw [(zp3 hE6).2.1, (zp3 hE6).2.2]; exact hP)⟩) (Nat.le_of_ble_eq_true rfl) (Nat.le_of_ble_eq_true rfl) dX7_play_37
  · refine zv_iconst (pc := 14) (v := 0) B rfl dX7_play_14 ?_
    have hE7 : (0, (m_X7_checked c (r_X7_in x 1 64)).2, w) = m_X7_play c w x := (by unfold m_X7_play; rw [if_neg h2])
    exact zv_iret (pc := 15) B (0) hr (fun H hP => ⟨(), ⟨(by rw [(zp3 hE7).1]), (by rw [(zp3 hE7).2.1]; exact (zfr.call zfr.refl hF2001 (by omega))), (by rw [(zp3 hE7).2.1]; exact hg2001), (by rw [(zp3 hE7).2.1]; exact ⟨by rw [hF2001 112 (by omega)]; exact hL.mono (by omega), by rw [ck_f _ _ (by decide)]; omega⟩)⟩, (by rw [(zp3 hE7).2.1, (zp3 hE7).2.2]; exact hP)⟩) (Nat.le_of_ble_eq_true rfl) (Nat.le_of_ble_eq_true rfl) dX7_play_15

def m_X7_step (c : Nat → Nat → Int32) (w : Nat → Int64) : Int32 × (Nat → Nat → Int32) × (Nat → Int64) := ((m_X7_plain ((m_X7_sampled c w).2.1) ((m_X7_sampled c w).1)).1, (m_X7_plain ((m_X7_sampled c w).2.1) ((m_X7_sampled c w).1)).2, (m_X7_sampled c w).2.2)
set_option maxRecDepth 100000 in
set_option maxHeartbeats 400000 in
theorem k_X7_step (l : Launch) (E : zE) (b : Nat) (c : Nat → Nat → Int32) (w : Nat → Int64) (en : Nat → Nat) (ea : Nat → Nat → Int32) {T : Nat} (hT : T + 2860 < 2 ^ 30) (hL : zLv T (c 112)) (hD : ∀ k, k < 10 → c 114 k = 2 → 1 ≤ zn (c 115 k) ∧ zn (c 115 k) ≤ 60) (ht : zn (c 111 22) + 64 < 2 ^ 31) (hg : zG c) : zM l yX7_step (.code yX7_step cX7_step 1 (some .int) :: zAll) (zRm 9 0 0) E b [.ref (b + 111)] (zH E b c w en ea) (fun v9 (_ : Unit) => v9 = some (.int (m_X7_step c w).1) ∧ zfr 111 113 122 123 c (m_X7_step c w).2.1 ∧ zG (m_X7_step c w).2.1 ∧ zLv (T + 2816) ((m_X7_step c w).2.1 112) ∧ zn ((m_X7_step c w).2.1 111 22) ≤ zn (c 111 22) + 64) (fun _ => zH E b ((m_X7_step c w).2.1) ((m_X7_step c w).2.2) en ea) 0 0 := by
  refine zM_of "ToneGraphModel" (by decide) rfl rfl (Nat.le_of_ble_eq_true rfl) (L0 := [(0, .ref (b + 111))]) rfl ?_
  intro p e s m args below meth c9 B hr hname
  refine zv_aload_n (pc := 0) B 0 rfl dX7_step_0 ?_
  refine zv_aload_n (pc := 1) B 0 rfl dX7_step_1 ?_
  refine zv_callV (pc := 2) (As := []) (rest := [.ref (b + 111)]) B (k_X7_sampled l E b _ _ _ _  (T := T) (by omega) hL hD (by omega) hg) (zcwV 0 8 B wm_X7_204 wi_X7_sampled wv_X7_sampled wn_X7 wcode_X7_sampled rfl (by decide +kernel) ⟨(Nat.le_of_ble_eq_true rfl), (Nat.le_of_ble_eq_true rfl)⟩) rfl (zrecv B (zat (by decide) (z111 _ _ _)) cl7) zid rfl (Nat.le_of_ble_eq_true rfl) dX7_step_2 ⟨(Nat.le_of_ble_eq_true rfl), (Nat.le_of_ble_eq_true rfl)⟩ (fun v9 u9 hv9 => ?_)
  obtain ⟨rfl, hF2001, hg2001, hx2001⟩ := hv9
  refine zv_st (st' := [.int ((m_X7_sampled c w).1), .ref (b + 111)]) rfl ?_
  refine zv_callV (pc := 5) (As := [.int ((m_X7_sampled c w).1)]) (rest := []) B (k_X7_plain l E b _ _ _ _  ((m_X7_sampled c w).1) hg2001) (zcwV 1 0 B wm_X7_125 wi_X7_plain wv_X7_plain wn_X7 wcode_X7_plain rfl (by decide +kernel) ⟨(Nat.le_of_ble_eq_true rfl), (Nat.le_of_ble_eq_true rfl)⟩) rfl (zrecv B (zat (by decide) (z111 _ _ _)) cl7) zid rfl (Nat.le_of_ble_eq_true rfl) dX7_step_5 ⟨(Nat.le_of_ble_eq_true rfl), (Nat.le_of_ble_eq_true rfl)⟩ (fun v9 u9 hv9 => ?_)
  obtain ⟨rfl, hF2002, hg2002⟩ := hv9
  refine zv_st (st' := [.int ((m_X7_plain ((m_X7_sampled c w).2.1) ((m_X7_sampled c w).1)).1)]) rfl ?_
  have hE3 : ((m_X7_plain ((m_X7_sampled c w).2.1) ((m_X7_sampled c w).1)).1, (m_X7_plain ((m_X7_sampled c w).2.1) ((m_X7_sampled c w).1)).2, (m_X7_sampled c w).2.2) = m_X7_step c w := (by unfold m_X7_step; rfl)
  exact zv_iret (pc := 8) B ((m_X7_plain ((m_X7_sampled c w).2.1) ((m_X7_sampled c w).1)).1) hr (fun H hP => ⟨(), ⟨(by rw [(zp3 hE3).1]), (by rw [(zp3 hE3).2.1]; exact (zfr.call (zfr.call zfr.refl hF2001 (by omega)) hF2002 (by omega))), (by rw [(zp3 hE3).2.1]; exact hg2002), (by rw [(zp3 hE3).2.1]; exact ⟨by rw [hF2002 112 (by omega)]; exact hx2001.1.mono (by omega), by rw [pn_f _ _ (by decide)]; omega⟩)⟩, (by rw [(zp3 hE3).2.1, (zp3 hE3).2.2]; exact hP)⟩) (Nat.le_of_ble_eq_true rfl) (Nat.le_of_ble_eq_true rfl) dX7_step_8

def m_X7_ahead (c : Nat → Nat → Int32) (x : Int32) : Int32 × (Nat → Nat → Int32) := if ((m_X7_checked c (r_X7_in x 1 40)).1) ≤ 0 then ((m_X7_foreseen ((m_X7_checked c (r_X7_in x 1 40)).2) (zn x)).1, (m_X7_foreseen ((m_X7_checked c (r_X7_in x 1 40)).2) (zn x)).2) else (0, (m_X7_checked c (r_X7_in x 1 40)).2)
set_option maxRecDepth 100000 in
set_option maxHeartbeats 400000 in
theorem k_X7_ahead (l : Launch) (E : zE) (b : Nat) (c : Nat → Nat → Int32) (w : Nat → Int64) (en : Nat → Nat) (ea : Nat → Nat → Int32) (x : Int32) {T : Nat} (hT : T + 2860 < 2 ^ 30) (hL : zLv T (c 112)) (hD : ∀ k, k < 10 → c 114 k = 2 → 1 ≤ zn (c 115 k) ∧ zn (c 115 k) ≤ 60) (hg : zG c) : zM l yX7_ahead (.code yX7_ahead cX7_ahead 2 (some .int) :: zAll) (zRm 9 0 0) E b [.ref (b + 111), .int x] (zH E b c w en ea) (fun v9 (_ : Unit) => v9 = some (.int (m_X7_ahead c x).1) ∧ zfr 111 114 111 111 c (m_X7_ahead c x).2 ∧ zG (m_X7_ahead c x).2 ∧ ∀ q, q < 704 → (m_X7_ahead c x).2 112 q = c 112 q) (fun _ => zH E b ((m_X7_ahead c x).2) w en ea) 0 0 := by
  refine zM_of "ToneGraphModel" (by decide) rfl rfl (Nat.le_of_ble_eq_true rfl) (L0 := [(0, .ref (b + 111)), (1, .int x)]) rfl ?_
  intro p e s m args below meth c9 B hr hname
  refine zv_aload_n (pc := 0) B 0 rfl dX7_ahead_0 ?_
  refine zv_iload_n (pc := 1) B 1 rfl dX7_ahead_1 ?_
  refine zv_iconst (pc := 2) (v := 1) B rfl dX7_ahead_2 ?_
  refine zv_bipush (pc := 3) (v := 40) B rfl dX7_ahead_3 ?_
  refine zv_callS (pc := 5) (As := [.int x, .int 1, .int 40]) (rest := [.ref (b + 111)]) B (k_X7_in l E b x 1 40) (zcwS 3 0 B wm_X7_94 ws_X7_in wn_X7 wcode_X7_in (by decide +kernel) ⟨(Nat.le_of_ble_eq_true rfl), (Nat.le_of_ble_eq_true rfl)⟩) rfl zid rfl (Nat.le_of_ble_eq_true rfl) dX7_ahead_5 ⟨(Nat.le_of_ble_eq_true rfl), (Nat.le_of_ble_eq_true rfl)⟩ (fun v9 u9 hv9 => ?_)
  subst hv9
  refine zv_st (st' := [.int (r_X7_in x 1 40), .ref (b + 111)]) rfl ?_
  refine zv_callV (pc := 8) (As := [.int (r_X7_in x 1 40)]) (rest := []) B (k_X7_checked l E b _ _ _ _  (r_X7_in x 1 40) hg) (zcwV 1 0 B wm_X7_121 wi_X7_checked wv_X7_checked wn_X7 wcode_X7_checked rfl (by decide +kernel) ⟨(Nat.le_of_ble_eq_true rfl), (Nat.le_of_ble_eq_true rfl)⟩) rfl (zrecv B (zat (by decide) (z111 _ _ _)) cl7) zid rfl (Nat.le_of_ble_eq_true rfl) dX7_ahead_8 ⟨(Nat.le_of_ble_eq_true rfl), (Nat.le_of_ble_eq_true rfl)⟩ (fun v9 u9 hv9 => ?_)
  obtain ⟨rfl, hF2001, hg2001⟩ := hv9
  refine zv_st (st' := [.int ((m_X7_checked c (r_X7_in x 1 40)).1)]) rfl ?_
  refine zv_if_le (pc := 11) (tgt := 18) B dX7_ahead_11 rfl (fun h2 => ?_) (fun h2 => ?_)
  · have hi9 := in_ok (ck_le h2)
    have hrx := zn_rng (a := 1) (b' := 40) rfl rfl (by decide) (by decide) hi9.1 hi9.2
    refine zv_aload_n (pc := 18) B 0 rfl dX7_ahead_18 ?_
    refine zv_iload_n (pc := 19) B 1 rfl dX7_ahead_19 ?_
    refine zv_st (st' := [.int (nI (zn x)), .ref (b + 111)]) (by rw [← zn_eq x]) ?_
    refine zv_callV (pc := 20) (As := [.int (nI (zn x))]) (rest := []) B (k_X7_foreseen l E b _ _ _ _  (by omega) (T := T) hT (by rw [hF2001 112 (by omega)]; exact hL) (by rw [hF2001 114 (by omega), hF2001 115 (by omega)]; exact hD) hg2001) (zcwV 1 8 B wm_X7_207 wi_X7_foreseen wv_X7_foreseen wn_X7 wcode_X7_foreseen rfl (by decide +kernel) ⟨(Nat.le_of_ble_eq_true rfl), (Nat.le_of_ble_eq_true rfl)⟩) rfl (zrecv B (zat (by decide) (z111 _ _ _)) cl7) zid rfl (Nat.le_of_ble_eq_true rfl) dX7_ahead_20 ⟨(Nat.le_of_ble_eq_true rfl), (Nat.le_of_ble_eq_true rfl)⟩ (fun v9 u9 hv9 => ?_)
    obtain ⟨rfl, hF2003, hg2003, hx2003⟩ := hv9
    refine zv_st (st' := [.int ((m_X7_foreseen ((m_X7_checked c (r_X7_in x 1 40)).2) (zn x)).1)]) rfl ?_
    have hE4 : ((m_X7_foreseen ((m_X7_checked c (r_X7_in x 1 40)).2) (zn x)).1, (m_X7_foreseen ((m_X7_checked c (r_X7_in x 1 40)).2) (zn x)).2) = m_X7_ahead c x := (by unfold m_X7_ahead; rw [if_pos h2])
    exact zv_iret (pc := 23) B ((m_X7_foreseen ((m_X7_checked c (r_X7_in x 1 40)).2) (zn x)).1) hr (fun H hP => ⟨(), ⟨(by rw [(zp2 hE4).1]), (by rw [(zp2 hE4).2]; exact (zfr.call (zfr.call zfr.refl hF2001 (by omega)) hF2003 (by omega))), (by rw [(zp2 hE4).2]; exact hg2003), (by rw [(zp2 hE4).2]; exact (fun q hq => by rw [hx2003 q hq, hF2001 112 (by omega)]))⟩, (by rw [(zp2 hE4).2]; exact hP)⟩) (Nat.le_of_ble_eq_true rfl) (Nat.le_of_ble_eq_true rfl) dX7_ahead_23
  · refine zv_iconst (pc := 14) (v := 0) B rfl dX7_ahead_14 ?_
    refine zv_goto (pc := 15) (tgt := 23) B rfl dX7_ahead_15 ?_
    have hE5 : (0, (m_X7_checked c (r_X7_in x 1 40)).2) = m_X7_ahead c x := (by unfold m_X7_ahead; rw [if_neg h2])
    exact zv_iret (pc := 23) B (0) hr (fun H hP => ⟨(), ⟨(by rw [(zp2 hE5).1]), (by rw [(zp2 hE5).2]; exact (zfr.call zfr.refl hF2001 (by omega))), (by rw [(zp2 hE5).2]; exact hg2001), (by rw [(zp2 hE5).2]; exact (fun q hq => by rw [hF2001 112 (by omega)]))⟩, (by rw [(zp2 hE5).2]; exact hP)⟩) (Nat.le_of_ble_eq_true rfl) (Nat.le_of_ble_eq_true rfl) dX7_ahead_23

def m_X7_aheadByBlocks (c : Nat → Nat → Int32) (x y : Int32) : Int32 × (Nat → Nat → Int32) := if (r_X7_in x 1 40) = 0 then (0, (m_X7_checked c 0).2) else (if (r_X7_in y 1 64) = 0 then (0, (m_X7_checked c 0).2) else ((m_X7_foreseen ((m_X7_checked c 1).2) (zn x)).1, (m_X7_foreseen ((m_X7_checked c 1).2) (zn x)).2))
set_option maxRecDepth 100000 in
set_option maxHeartbeats 400000 in
theorem k_X7_aheadByBlocks (l : Launch) (E : zE) (b : Nat) (c : Nat → Nat → Int32) (w : Nat → Int64) (en : Nat → Nat) (ea : Nat → Nat → Int32) (x y : Int32) {T : Nat} (hT : T + 2860 < 2 ^ 30) (hL : zLv T (c 112)) (hD : ∀ k, k < 10 → c 114 k = 2 → 1 ≤ zn (c 115 k) ∧ zn (c 115 k) ≤ 60) (hg : zG c) : zM l yX7_aheadByBlocks (.code yX7_aheadByBlocks cX7_aheadByBlocks 3 (some .int) :: zAll) (zRm 9 0 0) E b [.ref (b + 111), .int x, .int y] (zH E b c w en ea) (fun v9 (_ : Unit) => v9 = some (.int (m_X7_aheadByBlocks c x y).1) ∧ zfr 111 114 111 111 c (m_X7_aheadByBlocks c x y).2 ∧ zG (m_X7_aheadByBlocks c x y).2 ∧ ∀ q, q < 704 → (m_X7_aheadByBlocks c x y).2 112 q = c 112 q) (fun _ => zH E b ((m_X7_aheadByBlocks c x y).2) w en ea) 0 0 := by
  refine zM_of "ToneGraphModel" (by decide) rfl rfl (Nat.le_of_ble_eq_true rfl) (L0 := [(0, .ref (b + 111)), (1, .int x), (2, .int y)]) rfl ?_
  intro p e s m args below meth c9 B hr hname
  refine zv_aload_n (pc := 0) B 0 rfl dX7_aheadByBlocks_0 ?_
  refine zv_iload_n (pc := 1) B 1 rfl dX7_aheadByBlocks_1 ?_
  refine zv_iconst (pc := 2) (v := 1) B rfl dX7_aheadByBlocks_2 ?_
  refine zv_bipush (pc := 3) (v := 40) B rfl dX7_aheadByBlocks_3 ?_
  refine zv_callS (pc := 5) (As := [.int x, .int 1, .int 40]) (rest := [.ref (b + 111)]) B (k_X7_in l E b x 1 40) (zcwS 3 0 B wm_X7_94 ws_X7_in wn_X7 wcode_X7_in (by decide +kernel) ⟨(Nat.le_of_ble_eq_true rfl), (Nat.le_of_ble_eq_true rfl)⟩) rfl zid rfl (Nat.le_of_ble_eq_true rfl) dX7_aheadByBlocks_5 ⟨(Nat.le_of_ble_eq_true rfl), (Nat.le_of_ble_eq_true rfl)⟩ (fun v9 u9 hv9 => ?_)
  subst hv9
  refine zv_st (st' := [.int (r_X7_in x 1 40), .ref (b + 111)]) rfl ?_
  refine zv_if_eq (pc := 8) (tgt := 25) B dX7_aheadByBlocks_8 rfl (fun h1 => ?_) (fun h1 => ?_)
  · refine zv_iconst (pc := 25) (v := 0) B rfl dX7_aheadByBlocks_25 ?_
    refine zv_callV (pc := 26) (As := [.int 0]) (rest := []) B (k_X7_checked l E b _ _ _ _  0 hg) (zcwV 1 0 B wm_X7_121 wi_X7_checked wv_X7_checked wn_X7 wcode_X7_checked rfl (by decide +kernel) ⟨(Nat.le_of_ble_eq_true rfl), (Nat.le_of_ble_eq_true rfl)⟩) rfl (zrecv B (zat (by decide) (z111 _ _ _)) cl7) zid rfl (Nat.le_of_ble_eq_true rfl) dX7_aheadByBlocks_26 ⟨(Nat.le_of_ble_eq_true rfl), (Nat.le_of_ble_eq_true rfl)⟩ (fun v9 u9 hv9 => ?_)
    obtain ⟨rfl, hF2002, hg2002⟩ := hv9
    refine zv_st (st' := [.int ((m_X7_checked c 0).1)]) rfl ?_
    refine zv_if_le (pc := 29) (tgt := 36) B dX7_aheadByBlocks_29 rfl (fun h9 => absurd h9 (ck1 _)) (fun _ => ?_)
    refine zv_iconst (pc := 32) (v := 0) B rfl dX7_aheadByBlocks_32 ?_
    refine zv_goto (pc := 33) (tgt := 41) B rfl dX7_aheadByBlocks_33 ?_
    have hE4 : (0, (m_X7_checked c 0).2) = m_X7_aheadByBlocks c x y := (by unfold m_X7_aheadByBlocks; rw [if_pos h1])
    exact zv_iret (pc := 41) B (0) hr (fun H hP => ⟨(), ⟨(by rw [(zp2 hE4).1]), (by rw [(zp2 hE4).2]; exact (zfr.call zfr.refl hF2002 (by omega))), (by rw [(zp2 hE4).2]; exact hg2002), (by rw [(zp2 hE4).2]; exact (fun q hq => by rw [hF2002 112 (by omega)]))⟩, (by rw [(zp2 hE4).2]; exact hP)⟩) (Nat.le_of_ble_eq_true rfl) (Nat.le_of_ble_eq_true rfl) dX7_aheadByBlocks_41
  · refine zv_iload_n (pc := 11) B 2 rfl dX7_aheadByBlocks_11 ?_
    refine zv_iconst (pc := 12) (v := 1) B rfl dX7_aheadByBlocks_12 ?_
    refine zv_bipush (pc := 13) (v := 64) B rfl dX7_aheadByBlocks_13 ?_
    refine zv_callS (pc := 15) (As := [.int y, .int 1, .int 64]) (rest := [.ref (b + 111)]) B (k_X7_in l E b y 1 64) (zcwS 3 0 B wm_X7_94 ws_X7_in wn_X7 wcode_X7_in (by decide +kernel) ⟨(Nat.le_of_ble_eq_true rfl), (Nat.le_of_ble_eq_true rfl)⟩) rfl zid rfl (Nat.le_of_ble_eq_true rfl) dX7_aheadByBlocks_15 ⟨(Nat.le_of_ble_eq_true rfl), (Nat.le_of_ble_eq_true rfl)⟩ (fun v9 u9 hv9 => ?_)
    subst hv9
    refine zv_st (st' := [.int (r_X7_in y 1 64), .ref (b + 111)]) rfl ?_
    refine zv_if_eq (pc := 18) (tgt := 25) B dX7_aheadByBlocks_18 rfl (fun h5 => ?_) (fun h5 => ?_)
    · refine zv_iconst (pc := 25) (v := 0) B rfl dX7_aheadByBlocks_25 ?_
      refine zv_callV (pc := 26) (As := [.int 0]) (rest := []) B (k_X7_checked l E b _ _ _ _  0 hg) (zcwV 1 0 B wm_X7_121 wi_X7_checked wv_X7_checked wn_X7 wcode_X7_checked rfl (by decide +kernel) ⟨(Nat.le_of_ble_eq_true rfl), (Nat.le_of_ble_eq_true rfl)⟩) rfl (zrecv B (zat (by decide) (z111 _ _ _)) cl7) zid rfl (Nat.le_of_ble_eq_true rfl) dX7_aheadByBlocks_26 ⟨(Nat.le_of_ble_eq_true rfl), (Nat.le_of_ble_eq_true rfl)⟩ (fun v9 u9 hv9 => ?_)
      obtain ⟨rfl, hF2006, hg2006⟩ := hv9
      refine zv_st (st' := [.int ((m_X7_checked c 0).1)]) rfl ?_
      refine zv_if_le (pc := 29) (tgt := 36) B dX7_aheadByBlocks_29 rfl (fun h9 => absurd h9 (ck1 _)) (fun _ => ?_)
      refine zv_iconst (pc := 32) (v := 0) B rfl dX7_aheadByBlocks_32 ?_
      refine zv_goto (pc := 33) (tgt := 41) B rfl dX7_aheadByBlocks_33 ?_
      have hE8 : (0, (m_X7_checked c 0).2) = m_X7_aheadByBlocks c x y := (by unfold m_X7_aheadByBlocks; rw [if_neg h1, if_pos h5])
      exact zv_iret (pc := 41) B (0) hr (fun H hP => ⟨(), ⟨(by rw [(zp2 hE8).1]), (by rw [(zp2 hE8).2]; exact (zfr.call zfr.refl hF2006 (by omega))), (by rw [(zp2 hE8).2]; exact hg2006), (by rw [(zp2 hE8).2]; exact (fun q hq => by rw [hF2006 112 (by omega)]))⟩, (by rw [(zp2 hE8).2]; exact hP)⟩) (Nat.le_of_ble_eq_true rfl) (Nat.le_of_ble_eq_true rfl) dX7_aheadByBlocks_41
    · refine zv_iconst (pc := 21) (v := 1) B rfl dX7_aheadByBlocks_21 ?_
      refine zv_goto (pc := 22) (tgt := 26) B rfl dX7_aheadByBlocks_22 ?_
      refine zv_callV (pc := 26) (As := [.int 1]) (rest := []) B (k_X7_checked l E b _ _ _ _  1 hg) (zcwV 1 0 B wm_X7_121 wi_X7_checked wv_X7_checked wn_X7 wcode_X7_checked rfl (by decide +kernel) ⟨(Nat.le_of_ble_eq_true rfl), (Nat.le_of_ble_eq_true rfl)⟩) rfl (zrecv B (zat (by decide) (z111 _ _ _)) cl7) zid rfl (Nat.le_of_ble_eq_true rfl) dX7_aheadByBlocks_26 ⟨(Nat.le_of_ble_eq_true rfl), (Nat.le_of_ble_eq_true rfl)⟩ (fun v9 u9 hv9 => ?_)
      obtain ⟨rfl, hF2009, hg2009⟩ := hv9
      refine zv_st (st' := [.int ((m_X7_checked c 1).1)]) rfl ?_
      refine zv_if_le (pc := 29) (tgt := 36) B dX7_aheadByBlocks_29 rfl (fun _ => ?_) (fun h9 => absurd (ck0 _) h9)
      have hi9 := in_ok h1
      have hrx := zn_rng (a := 1) (b' := 40) rfl rfl (by decide) (by decide) hi9.1 hi9.2
      refine zv_aload_n (pc := 36) B 0 rfl dX7_aheadByBlocks_36 ?_
      refine zv_iload_n (pc := 37) B 1 rfl dX7_aheadByBlocks_37 ?_
      refine zv_st (st' := [.int (nI (zn x)), .ref (b + 111)]) (by rw [← zn_eq x]) ?_
      refine zv_callV (pc := 38) (As := [.int (nI (zn x))]) (rest := []) B (k_X7_foreseen l E b _ _ _ _  (by omega) (T := T) hT (by rw [hF2009 112 (by omega)]; exact hL) (by rw [hF2009 114 (by omega), hF2009 115 (by omega)]; exact hD) hg2009) (zcwV 1 8 B wm_X7_207 wi_X7_foreseen wv_X7_foreseen wn_X7 wcode_X7_foreseen rfl (by decide +kernel) ⟨(Nat.le_of_ble_eq_true rfl), (Nat.le_of_ble_eq_true rfl)⟩) rfl (zrecv B (zat (by decide) (z111 _ _ _)) cl7) zid rfl (Nat.le_of_ble_eq_true rfl) dX7_aheadByBlocks_38 ⟨(Nat.le_of_ble_eq_true rfl), (Nat.le_of_ble_eq_true rfl)⟩ (fun v9 u9 hv9 => ?_)
      obtain ⟨rfl, hF2011, hg2011, hx2011⟩ := hv9
      refine zv_st (st' := [.int ((m_X7_foreseen ((m_X7_checked c 1).2) (zn x)).1)]) rfl ?_
      have hE12 : ((m_X7_foreseen ((m_X7_checked c 1).2) (zn x)).1, (m_X7_foreseen ((m_X7_checked c 1).2) (zn x)).2) = m_X7_aheadByBlocks c x y := (by unfold m_X7_aheadByBlocks; rw [if_neg h1, if_neg h5])
      exact zv_iret (pc := 41) B ((m_X7_foreseen ((m_X7_checked c 1).2) (zn x)).1) hr (fun H hP => ⟨(), ⟨(by rw [(zp2 hE12).1]), (by rw [(zp2 hE12).2]; exact (zfr.call (zfr.call zfr.refl hF2009 (by omega)) hF2011 (by omega))), (by rw [(zp2 hE12).2]; exact hg2011), (by rw [(zp2 hE12).2]; exact (fun q hq => by rw [hx2011 q hq, hF2009 112 (by omega)]))⟩, (by rw [(zp2 hE12).2]; exact hP)⟩) (Nat.le_of_ble_eq_true rfl) (Nat.le_of_ble_eq_true rfl) dX7_aheadByBlocks_41
