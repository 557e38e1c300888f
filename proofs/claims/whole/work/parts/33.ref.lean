def g3_X7_foreseen (c : Nat → Nat → Int32) (z : Nat)  : Nat → Nat → (Nat → Nat → Int32) → (Nat → (Nat → Nat → Int32) → Int32 × (Nat → Nat → Int32)) → Int32 × (Nat → Nat → Int32)
  | 0, k, c3, K => K k c3
  | n + 1, k, c3, K => g3_X7_foreseen c z n (k + 1) (zup c3 112 k (c3 113 k)) K
def g2_X7_foreseen (c : Nat → Nat → Int32) (z : Nat)  : Nat → Nat → Int32 → (Nat → Nat → Int32) → (Nat → Int32 → (Nat → Nat → Int32) → Int32 × (Nat → Nat → Int32)) → Int32 × (Nat → Nat → Int32)
  | 0, j, x, c2, K => K j x c2
  | n + 1, j, x, c2, K => g2_X7_foreseen c z n (j + 1) ((m_X7_samples c2).1) ((m_X7_samples c2).2) K
def g1_X7_foreseen (c : Nat → Nat → Int32) (z : Nat)  : Nat → Nat → (Nat → Nat → Int32) → (Nat → (Nat → Nat → Int32) → Int32 × (Nat → Nat → Int32)) → Int32 × (Nat → Nat → Int32)
  | 0, i, c1, K => K i c1
  | n + 1, i, c1, K => g1_X7_foreseen c z n (i + 1) (zup c1 113 i (c 112 i)) K
def m_X7_foreseen (c : Nat → Nat → Int32) (z : Nat) : Int32 × (Nat → Nat → Int32) := g1_X7_foreseen c z 704 0 c (fun i c1 => g2_X7_foreseen c z z 0 0 c1 (fun j x c2 => g3_X7_foreseen c z 704 0 c2 (fun k c3 => (x, c3))))
set_option maxRecDepth 100000 in
set_option maxHeartbeats 400000 in
theorem k_X7_foreseen (l : Launch) (E : zE) (b : Nat) (c : Nat → Nat → Int32) (w : Nat → Int64) (en : Nat → Nat) (ea : Nat → Nat → Int32) {z : Nat} (hz : z ≤ 64) {T : Nat} (hT : T + 2860 < 2 ^ 30) (hL : zLv T (c 112)) (hD : ∀ k, k < 10 → c 114 k = 2 → 1 ≤ zn (c 115 k) ∧ zn (c 115 k) ≤ 60) (hg : zG c) : zM l yX7_foreseen (.code yX7_foreseen cX7_foreseen 4 (some .int) :: zAll) (zRm 8 0 0) E b [.ref (b + 111), .int (nI z)] (zH E b c w en ea) (fun v9 (_ : Unit) => v9 = some (.int (m_X7_foreseen c z).1) ∧ zfr 112 114 112 112 c (m_X7_foreseen c z).2 ∧ zG (m_X7_foreseen c z).2 ∧ ∀ q, q < 704 → (m_X7_foreseen c z).2 112 q = c 112 q) (fun _ => zH E b ((m_X7_foreseen c z).2) w en ea) 0 0 := by
  refine zM_of "ToneGraphModel" (by decide) rfl rfl (Nat.le_of_ble_eq_true rfl) (L0 := [(0, .ref (b + 111)), (1, .int (nI z))]) rfl ?_
  intro p e s m args below meth c9 B hr hname
  refine zv_iconst (pc := 0) (v := 0) B rfl dX7_foreseen_0 ?_
  refine zv_istore_n (pc := 1) (L' := [(2, .int 0), (0, .ref (b + 111)), (1, .int (nI z))]) B (by decide) rfl dX7_foreseen_1 ?_
  refine zv_iconst (pc := 2) (v := 0) B rfl dX7_foreseen_2 ?_
  refine zv_istore_n (pc := 3) (L' := [(3, .int 0), (2, .int 0), (0, .ref (b + 111)), (1, .int (nI z))]) B (by decide) rfl dX7_foreseen_3 ?_
  have loop1 : ∀ (K : Nat → (Nat → Nat → Int32) → Int32 × (Nat → Nat → Int32)) (n : Nat) (i : Nat) (c1 : Nat → Nat → Int32), zfr 113 114 113 113 c c1 → zG c1 → (∀ q, q < i → c1 113 q = c 112 q) → i + n = 704 → g1_X7_foreseen c z n i c1 K = m_X7_foreseen c z → (∀ (i : Nat) (c1 : Nat → Nat → Int32), zfr 113 114 113 113 c c1 → zG c1 → (∀ q, q < i → c1 113 q = c 112 q) → i = 704 → K i c1 = m_X7_foreseen c z → zV p l e (zRm 8 0 0) s m args below meth c9 (MQ below (zQ b (fun v9 (_ : Unit) => v9 = some (.int (m_X7_foreseen c z).1) ∧ zfr 112 114 112 112 c (m_X7_foreseen c z).2 ∧ zG (m_X7_foreseen c z).2 ∧ ∀ q, q < 704 → (m_X7_foreseen c z).2 112 q = c 112 q) (fun _ => zH E b ((m_X7_foreseen c z).2) w en ea)) args s 0 0 (zA b)) 4 b (zH E b c1 w en ea) 29 [(0, .ref (b + 111)), (1, .int (nI z)), (2, .int 0), (3, .int (nI i))] [] 0 0) → zV p l e (zRm 8 0 0) s m args below meth c9 (MQ below (zQ b (fun v9 (_ : Unit) => v9 = some (.int (m_X7_foreseen c z).1) ∧ zfr 112 114 112 112 c (m_X7_foreseen c z).2 ∧ zG (m_X7_foreseen c z).2 ∧ ∀ q, q < 704 → (m_X7_foreseen c z).2 112 q = c 112 q) (fun _ => zH E b ((m_X7_foreseen c z).2) w en ea)) args s 0 0 (zA b)) 4 b (zH E b c1 w en ea) 4 [(0, .ref (b + 111)), (1, .int (nI z)), (2, .int 0), (3, .int (nI i))] [] 0 0 := by
    intro K n
    induction n with
    | zero =>
      intro i c1 hF1 hg1 hs8 hi hE901 hK
      refine zv_iload_n (pc := 4) B 3 rfl dX7_foreseen_4 ?_
      refine zv_sipush (pc := 5) (v := 704) B rfl dX7_foreseen_5 ?_
      refine zv_icmp_ge (pc := 8) (tgt := 29) B dX7_foreseen_8 rfl (fun _ => ?_) (fun h9 => absurd ((z_le (a := 704) (b := i) rfl rfl (by omega) (by omega)).mpr (by omega)) h9)
      exact hK i c1 hF1 hg1 hs8 (by omega) (Eq.trans (by rw [g1_X7_foreseen]) hE901)
    | succ n ih =>
      intro i c1 hF1 hg1 hs8 hi hE901 hK
      refine zv_iload_n (pc := 4) B 3 rfl dX7_foreseen_4 ?_
      refine zv_sipush (pc := 5) (v := 704) B rfl dX7_foreseen_5 ?_
      refine zv_icmp_ge (pc := 8) (tgt := 29) B dX7_foreseen_8 rfl (fun h9 => absurd h9 (fun q9 => absurd ((z_le (a := 704) (b := i) rfl rfl (by omega) (by omega)).mp q9) (by omega))) (fun _ => ?_)
      refine zv_aload_n (pc := 11) B 0 rfl dX7_foreseen_11 ?_
      refine zv_get (pc := 12) (v := .ref (b + 113)) B (zat (by decide) (z111 _ _ _)) cl7 inX7 1 (by decide) wf_X7_13 rfl dX7_foreseen_12 ?_
      refine zv_iload_n (pc := 15) B 3 rfl dX7_foreseen_15 ?_
      refine zv_aload_n (pc := 16) B 0 rfl dX7_foreseen_16 ?_
      refine zv_get (pc := 17) (v := .ref (b + 112)) B (zat (by decide) (z111 _ _ _)) cl7 inX7 0 (by decide) wf_X7_7 rfl dX7_foreseen_17 ?_
      refine zv_iload_n (pc := 20) B 3 rfl dX7_foreseen_20 ?_
      refine zv_iald (pc := 21) (jj := i) B (zat (by decide) (z112 _ _ _)) rfl (by omega) (by decide) dX7_foreseen_21 ?_
      refine zv_topi (y := c 112 i) (by rw [hF1 112 (by omega)]) ?_
      refine zs_iast (pc := 22) (jj := i) B zid (by decide) rfl (fun x w e => z113 x w e) rfl (by omega) (by decide) dX7_foreseen_22 ?_
      refine zv_iinc (pc := 23) (v := nI (i + 1)) (L' := [(3, .int (nI (i + 1))), (0, .ref (b + 111)), (1, .int (nI z)), (2, .int 0)]) B 3 rfl (nI_1 _) (by decide) rfl dX7_foreseen_23 ?_
      refine zv_goto (pc := 26) (tgt := 4) B rfl dX7_foreseen_26 ?_
      refine zv_loc (L' := [(0, .ref (b + 111)), (1, .int (nI z)), (2, .int 0), (3, .int (nI (i + 1)))]) [1, 2, 3, 0] rfl ?_
      exact ih (i + 1) (zup c1 113 i (c 112 i)) (zfr.up hF1 (by omega)) (zG.up hg1 (show zn _ ≤ zBd 113 i from hg 112 i)) (fun q hq => by rw [zup_at]; by_cases e : q = i; (· subst e; rw [if_pos ⟨rfl, rfl⟩]); (· rw [if_neg (fun z => e z.2)]; exact hs8 q (by omega))) (by omega) (Eq.trans (by rw [g1_X7_foreseen]) hE901) hK
  refine zv_loc (L' := [(0, .ref (b + 111)), (1, .int (nI z)), (2, .int 0), (3, .int 0)]) [2, 3, 1, 0] rfl ?_
  refine loop1 (fun i c1 => g2_X7_foreseen c z z 0 0 c1 (fun j x c2 => g3_X7_foreseen c z 704 0 c2 (fun k c3 => (x, c3)))) 704 0 c zfr.refl hg (fun q hq => absurd hq (Nat.not_lt_zero q)) (by omega) (by unfold m_X7_foreseen; rfl) ?_
  intro i c1 hF1 hg1 hs8 hx
  intro (hE951 : g2_X7_foreseen c z z 0 0 c1 (fun j x c2 => g3_X7_foreseen c z 704 0 c2 (fun k c3 => (x, c3))) = m_X7_foreseen c z)
  refine zv_iconst (pc := 29) (v := 0) B rfl dX7_foreseen_29 ?_
  refine zv_istore_n (pc := 30) (L' := [(3, .int 0), (0, .ref (b + 111)), (1, .int (nI z)), (2, .int 0)]) B (by decide) rfl dX7_foreseen_30 ?_
  have loop2 : ∀ (K : Nat → Int32 → (Nat → Nat → Int32) → Int32 × (Nat → Nat → Int32)) (n : Nat) (j : Nat) (x : Int32) (c2 : Nat → Nat → Int32), zfr 112 114 112 112 c c2 → zG c2 → (∀ q, q < 704 → c2 113 q = c 112 q) → zLv (T + 44 * j) (c2 112) → j + n = z → g2_X7_foreseen c z n j x c2 K = m_X7_foreseen c z → (∀ (j : Nat) (x : Int32) (c2 : Nat → Nat → Int32), zfr 112 114 112 112 c c2 → zG c2 → (∀ q, q < 704 → c2 113 q = c 112 q) → zLv (T + 44 * j) (c2 112) → j ≤ z → K j x c2 = m_X7_foreseen c z → zV p l e (zRm 8 0 0) s m args below meth c9 (MQ below (zQ b (fun v9 (_ : Unit) => v9 = some (.int (m_X7_foreseen c z).1) ∧ zfr 112 114 112 112 c (m_X7_foreseen c z).2 ∧ zG (m_X7_foreseen c z).2 ∧ ∀ q, q < 704 → (m_X7_foreseen c z).2 112 q = c 112 q) (fun _ => zH E b ((m_X7_foreseen c z).2) w en ea)) args s 0 0 (zA b)) 4 b (zH E b c2 w en ea) 47 [(0, .ref (b + 111)), (1, .int (nI z)), (3, .int (nI j)), (2, .int x)] [] 0 0) → zV p l e (zRm 8 0 0) s m args below meth c9 (MQ below (zQ b (fun v9 (_ : Unit) => v9 = some (.int (m_X7_foreseen c z).1) ∧ zfr 112 114 112 112 c (m_X7_foreseen c z).2 ∧ zG (m_X7_foreseen c z).2 ∧ ∀ q, q < 704 → (m_X7_foreseen c z).2 112 q = c 112 q) (fun _ => zH E b ((m_X7_foreseen c z).2) w en ea)) args s 0 0 (zA b)) 4 b (zH E b c2 w en ea) 31 [(0, .ref (b + 111)), (1, .int (nI z)), (3, .int (nI j)), (2, .int x)] [] 0 0 := by
    intro K n
    induction n with
    | zero =>
      intro j x c2 hF2 hg2 hs9 hL9 hi hE902 hK
      refine zv_iload_n (pc := 31) B 2 rfl dX7_foreseen_31 ?_
      refine zv_iload_n (pc := 32) B 1 rfl dX7_foreseen_32 ?_
      refine zv_icmp_ge (pc := 33) (tgt := 47) B dX7_foreseen_33 rfl (fun _ => ?_) (fun h9 => absurd ((z_le (a := z) (b := j) rfl rfl (by omega) (by omega)).mpr (by omega)) h9)
      exact hK j x c2 hF2 hg2 hs9 hL9 (by omega) (Eq.trans (by rw [g2_X7_foreseen]) hE902)
    | succ n ih =>
      intro j x c2 hF2 hg2 hs9 hL9 hi hE902 hK
      refine zv_iload_n (pc := 31) B 2 rfl dX7_foreseen_31 ?_
      refine zv_iload_n (pc := 32) B 1 rfl dX7_foreseen_32 ?_
      refine zv_icmp_ge (pc := 33) (tgt := 47) B dX7_foreseen_33 rfl (fun h9 => absurd h9 (fun q9 => absurd ((z_le (a := z) (b := j) rfl rfl (by omega) (by omega)).mp q9) (by omega))) (fun _ => ?_)
      refine zv_aload_n (pc := 36) B 0 rfl dX7_foreseen_36 ?_
      refine zv_callV (pc := 37) (As := []) (rest := []) B (k_X7_samples l E b _ _ _ _  (T := T + 44 * j) (by omega) hL9 (by rw [hF2 114 (by omega), hF2 115 (by omega)]; exact hD) hg2) (zcwV 0 7 B wm_X7_201 wi_X7_samples wv_X7_samples wn_X7 wcode_X7_samples rfl (by decide +kernel) ⟨(Nat.le_of_ble_eq_true rfl), (Nat.le_of_ble_eq_true rfl)⟩) rfl (zrecv B (zat (by decide) (z111 _ _ _)) cl7) zid rfl (Nat.le_of_ble_eq_true rfl) dX7_foreseen_37 ⟨(Nat.le_of_ble_eq_true rfl), (Nat.le_of_ble_eq_true rfl)⟩ (fun v9 u9 hv9 => ?_)
      obtain ⟨rfl, hF2005, hg2005, hx2005⟩ := hv9
      refine zv_st (st' := [.int ((m_X7_samples c2).1)]) rfl ?_
      refine zv_istore_n (pc := 40) (L' := [(2, .int ((m_X7_samples c2).1)), (0, .ref (b + 111)), (1, .int (nI z)), (3, .int (nI j))]) B (by decide) rfl dX7_foreseen_40 ?_
      refine zv_iinc (pc := 41) (v := nI (j + 1)) (L' := [(3, .int (nI (j + 1))), (2, .int ((m_X7_samples c2).1)), (0, .ref (b + 111)), (1, .int (nI z))]) B 3 rfl (nI_1 _) (by decide) rfl dX7_foreseen_41 ?_
      refine zv_goto (pc := 44) (tgt := 31) B rfl dX7_foreseen_44 ?_
      refine zv_loc (L' := [(0, .ref (b + 111)), (1, .int (nI z)), (3, .int (nI (j + 1))), (2, .int ((m_X7_samples c2).1))]) [2, 3, 0, 1] rfl ?_
      exact ih (j + 1) ((m_X7_samples c2).1) ((m_X7_samples c2).2) (zfr.call hF2 hF2005 (by omega)) hg2005 (fun q hq => by rw [hF2005 113 (by omega)]; exact hs9 q hq) (zLv.mono hx2005 (by omega)) (by omega) (Eq.trans (by rw [g2_X7_foreseen]) hE902) hK
  refine zv_loc (L' := [(0, .ref (b + 111)), (1, .int (nI z)), (3, .int 0), (2, .int 0)]) [1, 2, 0, 3] rfl ?_
  refine loop2 (fun j x c2 => g3_X7_foreseen c z 704 0 c2 (fun k c3 => (x, c3))) z 0 0 c1 (zfr.call zfr.refl hF1 (by omega)) hg1 (fun q hq => hs8 q (by omega)) (by rw [hF1 112 (by omega)]; exact hL) (by omega) hE951 ?_
  intro j x c2 hF2 hg2 hs9 hL9 hx
  intro (hE952 : g3_X7_foreseen c z 704 0 c2 (fun k c3 => (x, c3)) = m_X7_foreseen c z)
  refine zv_iconst (pc := 47) (v := 0) B rfl dX7_foreseen_47 ?_
  refine zv_istore_n (pc := 48) (L' := [(3, .int 0), (0, .ref (b + 111)), (1, .int (nI z)), (2, .int x)]) B (by decide) rfl dX7_foreseen_48 ?_
  have loop3 : ∀ (K : Nat → (Nat → Nat → Int32) → Int32 × (Nat → Nat → Int32)) (n : Nat) (k : Nat) (c3 : Nat → Nat → Int32), zfr 112 114 112 112 c c3 → zG c3 → (∀ q, q < 704 → c3 113 q = c 112 q) → (∀ q, q < k → c3 112 q = c 112 q) → k + n = 704 → g3_X7_foreseen c z n k c3 K = m_X7_foreseen c z → (∀ (k : Nat) (c3 : Nat → Nat → Int32), zfr 112 114 112 112 c c3 → zG c3 → (∀ q, q < 704 → c3 113 q = c 112 q) → (∀ q, q < k → c3 112 q = c 112 q) → k = 704 → K k c3 = m_X7_foreseen c z → zV p l e (zRm 8 0 0) s m args below meth c9 (MQ below (zQ b (fun v9 (_ : Unit) => v9 = some (.int (m_X7_foreseen c z).1) ∧ zfr 112 114 112 112 c (m_X7_foreseen c z).2 ∧ zG (m_X7_foreseen c z).2 ∧ ∀ q, q < 704 → (m_X7_foreseen c z).2 112 q = c 112 q) (fun _ => zH E b ((m_X7_foreseen c z).2) w en ea)) args s 0 0 (zA b)) 4 b (zH E b c3 w en ea) 74 [(0, .ref (b + 111)), (1, .int (nI z)), (2, .int x), (3, .int (nI k))] [] 0 0) → zV p l e (zRm 8 0 0) s m args below meth c9 (MQ below (zQ b (fun v9 (_ : Unit) => v9 = some (.int (m_X7_foreseen c z).1) ∧ zfr 112 114 112 112 c (m_X7_foreseen c z).2 ∧ zG (m_X7_foreseen c z).2 ∧ ∀ q, q < 704 → (m_X7_foreseen c z).2 112 q = c 112 q) (fun _ => zH E b ((m_X7_foreseen c z).2) w en ea)) args s 0 0 (zA b)) 4 b (zH E b c3 w en ea) 49 [(0, .ref (b + 111)), (1, .int (nI z)), (2, .int x), (3, .int (nI k))] [] 0 0 := by
    intro K n
    induction n with
    | zero =>
      intro k c3 hF3 hg3 hs7 hs6 hi hE903 hK
      refine zv_iload_n (pc := 49) B 3 rfl dX7_foreseen_49 ?_
      refine zv_sipush (pc := 50) (v := 704) B rfl dX7_foreseen_50 ?_
      refine zv_icmp_ge (pc := 53) (tgt := 74) B dX7_foreseen_53 rfl (fun _ => ?_) (fun h9 => absurd ((z_le (a := 704) (b := k) rfl rfl (by omega) (by omega)).mpr (by omega)) h9)
      exact hK k c3 hF3 hg3 hs7 hs6 (by omega) (Eq.trans (by rw [g3_X7_foreseen]) hE903)
    | succ n ih =>
      intro k c3 hF3 hg3 hs7 hs6 hi hE903 hK
      refine zv_iload_n (pc := 49) B 3 rfl dX7_foreseen_49 ?_
      refine zv_sipush (pc := 50) (v := 704) B rfl dX7_foreseen_50 ?_
      refine zv_icmp_ge (pc := 53) (tgt := 74) B dX7_foreseen_53 rfl (fun h9 => absurd h9 (fun q9 => absurd ((z_le (a := 704) (b := k) rfl rfl (by omega) (by omega)).mp q9) (by omega))) (fun _ => ?_)
      refine zv_aload_n (pc := 56) B 0 rfl dX7_foreseen_56 ?_
      refine zv_get (pc := 57) (v := .ref (b + 112)) B (zat (by decide) (z111 _ _ _)) cl7 inX7 0 (by decide) wf_X7_7 rfl dX7_foreseen_57 ?_
      refine zv_iload_n (pc := 60) B 3 rfl dX7_foreseen_60 ?_
      refine zv_aload_n (pc := 61) B 0 rfl dX7_foreseen_61 ?_
      refine zv_get (pc := 62) (v := .ref (b + 113)) B (zat (by decide) (z111 _ _ _)) cl7 inX7 1 (by decide) wf_X7_13 rfl dX7_foreseen_62 ?_
      refine zv_iload_n (pc := 65) B 3 rfl dX7_foreseen_65 ?_
      refine zv_iald (pc := 66) (jj := k) B (zat (by decide) (z113 _ _ _)) rfl (by omega) (by decide) dX7_foreseen_66 ?_
      refine zs_iast (pc := 67) (jj := k) B zid (by decide) rfl (fun x w e => z112 x w e) rfl (by omega) (by decide) dX7_foreseen_67 ?_
      refine zv_iinc (pc := 68) (v := nI (k + 1)) (L' := [(3, .int (nI (k + 1))), (0, .ref (b + 111)), (1, .int (nI z)), (2, .int x)]) B 3 rfl (nI_1 _) (by decide) rfl dX7_foreseen_68 ?_
      refine zv_goto (pc := 71) (tgt := 49) B rfl dX7_foreseen_71 ?_
      refine zv_loc (L' := [(0, .ref (b + 111)), (1, .int (nI z)), (2, .int x), (3, .int (nI (k + 1)))]) [1, 2, 3, 0] rfl ?_
      exact ih (k + 1) (zup c3 112 k (c3 113 k)) (zfr.up hF3 (by omega)) (zG.up hg3 (show zn _ ≤ zBd 112 k from hg3 113 k)) (fun q hq => by rw [zup_i _ _ _ (by decide)]; exact hs7 q hq) (fun q hq => by rw [zup_at]; by_cases e : q = k; (· subst e; rw [if_pos ⟨rfl, rfl⟩]; exact hs7 q (by omega)); (· rw [if_neg (fun z => e z.2)]; exact hs6 q (by omega))) (by omega) (Eq.trans (by rw [g3_X7_foreseen]) hE903) hK
  refine zv_loc (L' := [(0, .ref (b + 111)), (1, .int (nI z)), (2, .int x), (3, .int 0)]) [1, 2, 3, 0] rfl ?_
  refine loop3 (fun k c3 => (x, c3)) 704 0 c2 hF2 hg2 hs9 (fun q hq => absurd hq (Nat.not_lt_zero q)) (by omega) hE952 ?_
  intro k c3 hF3 hg3 hs7 hs6 hx
  intro (hE953 : (x, c3) = m_X7_foreseen c z)
  refine zv_iload_n (pc := 74) B 2 rfl dX7_foreseen_74 ?_
  have hE8 : (x, c3) = m_X7_foreseen c z := hE953
  exact zv_iret (pc := 75) B (x) hr (fun H hP => ⟨(), ⟨(by rw [(zp2 hE8).1]), (by rw [(zp2 hE8).2]; exact hF3), (by rw [(zp2 hE8).2]; exact hg3), (by rw [(zp2 hE8).2]; exact (fun q hq => hs6 q (by omega)))⟩, (by rw [(zp2 hE8).2]; exact hP)⟩) (Nat.le_of_ble_eq_true rfl) (Nat.le_of_ble_eq_true rfl) dX7_foreseen_75
