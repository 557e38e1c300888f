theorem isIn_01 (x y : Int32) : r_X0_isIn x y = 0 ∨ r_X0_isIn x y = 1 := by
  unfold r_X0_isIn
  split
  · exact Or.inr rfl
  · exact Or.inl rfl
theorem isIn_le (x y : Int32) : zn (r_X0_isIn x y) ≤ 1 := by rcases isIn_01 x y with h | h <;> rw [h] <;> decide
def g1_X0_findWire (c : Nat → Nat → Int32) (x : Int32) (t : Nat)  : Nat → Nat → (Nat → Int32) → Int32
  | 0, i, K => K i
  | n + 1, i, K => if (c (12 + t) i) = x then (nI i) else (g1_X0_findWire c x t n (i + 1) K)
def m_X0_findWire (c : Nat → Nat → Int32) (x : Int32) (t : Nat) : Int32 := g1_X0_findWire c x t (zn (c 10 t)) 0 (fun i => (-1))
set_option maxRecDepth 100000 in
set_option maxHeartbeats 4000000 in
theorem k_X0_findWire (l : Launch) (E : zE) (b : Nat) (c : Nat → Nat → Int32) (w : Nat → Int64) (en : Nat → Nat) (ea : Nat → Nat → Int32) (x : Int32) {t : Nat} (ht : t < 10) (hg : zG c) : zM l yX0_findWire (.code yX0_findWire cX0_findWire 4 (some .int) :: zAll) (zRm 0 0 0) E b [.ref (b + 1), .int x, .int (nI t)] (zH E b c w en ea) (fun v9 (_ : Unit) => v9 = some (.int (m_X0_findWire c x t))) (fun _ => zH E b c w en ea) 0 0 := by
  refine zM_of "ToneGraph$Board" (by decide) rfl rfl (Nat.le_of_ble_eq_true rfl) (L0 := [(0, .ref (b + 1)), (1, .int x), (2, .int (nI t))]) rfl ?_
  intro p e s m args below meth c9 B hr hname
  have hN : zn (c 10 t) ≤ 4 := hg 10 t
  refine zv_iconst (pc := 0) (v := 0) B rfl dX0_findWire_0 ?_
  refine zv_istore_n (pc := 1) (L' := [(3, .int 0), (0, .ref (b + 1)), (1, .int x), (2, .int (nI t))]) B (by decide) rfl dX0_findWire_1 ?_
  have loop1 : ∀ (K : Nat → Int32) (n : Nat) (i : Nat), i + n = zn (c 10 t) → g1_X0_findWire c x t n i K = m_X0_findWire c x t → (∀ (i : Nat), i ≤ zn (c 10 t) → K i = m_X0_findWire c x t → zV p l e (zRm 0 0 0) s m args below meth c9 (MQ below (zQ b (fun v9 (_ : Unit) => v9 = some (.int (m_X0_findWire c x t))) (fun _ => zH E b c w en ea)) args s 0 0 (zA b)) 4 b (zH E b c w en ea) 32 [(0, .ref (b + 1)), (1, .int x), (2, .int (nI t)), (3, .int (nI i))] [] 0 0) → zV p l e (zRm 0 0 0) s m args below meth c9 (MQ below (zQ b (fun v9 (_ : Unit) => v9 = some (.int (m_X0_findWire c x t))) (fun _ => zH E b c w en ea)) args s 0 0 (zA b)) 4 b (zH E b c w en ea) 2 [(0, .ref (b + 1)), (1, .int x), (2, .int (nI t)), (3, .int (nI i))] [] 0 0 := by
    intro K n
    induction n with
    | zero =>
      intro i hi hE901 hK
      refine zv_iload_n (pc := 2) B 3 rfl dX0_findWire_2 ?_
      refine zv_aload_n (pc := 3) B 0 rfl dX0_findWire_3 ?_
      refine zv_get (pc := 4) (v := .ref (b + 10)) B (zat (by decide) (z1 _ _ _)) cl0 inX0 10 (by decide) wf_X0_37 rfl dX0_findWire_4 ?_
      refine zv_iload_n (pc := 7) B 2 rfl dX0_findWire_7 ?_
      refine zv_iald (pc := 8) (jj := t) B (zat (by decide) (z10 _ _ _)) rfl ht (by decide) dX0_findWire_8 ?_
      refine zv_icmp_ge (pc := 9) (tgt := 32) B dX0_findWire_9 rfl (fun _ => ?_) (fun h9 => absurd ((z_le (a := (zn (c 10 t))) (b := i) (zn_eq (c 10 t)) rfl (by have h8 := (show zn _ ≤ 4 from hg 10 t); omega) (by have h8 := (show zn _ ≤ 4 from hg 10 t); omega)).mpr (by have h8 := (show zn _ ≤ 4 from hg 10 t); omega)) h9)
      exact hK i  (by omega) (Eq.trans (by rw [g1_X0_findWire]) hE901)
    | succ n ih =>
      intro i hi hE901 hK
      refine zv_iload_n (pc := 2) B 3 rfl dX0_findWire_2 ?_
      refine zv_aload_n (pc := 3) B 0 rfl dX0_findWire_3 ?_
      refine zv_get (pc := 4) (v := .ref (b + 10)) B (zat (by decide) (z1 _ _ _)) cl0 inX0 10 (by decide) wf_X0_37 rfl dX0_findWire_4 ?_
      refine zv_iload_n (pc := 7) B 2 rfl dX0_findWire_7 ?_
      refine zv_iald (pc := 8) (jj := t) B (zat (by decide) (z10 _ _ _)) rfl ht (by decide) dX0_findWire_8 ?_
      refine zv_icmp_ge (pc := 9) (tgt := 32) B dX0_findWire_9 rfl (fun h9 => absurd h9 (fun q9 => absurd ((z_le (a := (zn (c 10 t))) (b := i) (zn_eq (c 10 t)) rfl (by have h8 := (show zn _ ≤ 4 from hg 10 t); omega) (by have h8 := (show zn _ ≤ 4 from hg 10 t); omega)).mp q9) (by have h8 := (show zn _ ≤ 4 from hg 10 t); omega))) (fun _ => ?_)
      refine zv_aload_n (pc := 12) B 0 rfl dX0_findWire_12 ?_
      refine zv_get (pc := 13) (v := .ref (b + 11)) B (zat (by decide) (z1 _ _ _)) cl0 inX0 11 (by decide) wf_X0_42 rfl dX0_findWire_13 ?_
      refine zv_iload_n (pc := 16) B 2 rfl dX0_findWire_16 ?_
      refine zv_rald (pc := 17) (jj := t) (q1 := b + (12 + t)) B (zat (by decide) (z11 _ _ _)) rfl ht (by decide) (if_pos ht) dX0_findWire_17 ?_
      refine zv_iload_n (pc := 18) B 3 rfl dX0_findWire_18 ?_
      refine zv_iald (pc := 19) (jj := i) B (zat (by have h9 : t < 10 := ht; omega) (zsrc ht _ _ _)) rfl (by omega) (by decide) dX0_findWire_19 ?_
      refine zv_iload_n (pc := 20) B 1 rfl dX0_findWire_20 ?_
      refine zv_icmp_ne (pc := 21) (tgt := 26) B dX0_findWire_21 rfl (fun h3 => ?_) (fun h3 => ?_)
      · refine zv_iinc (pc := 26) (v := nI (i + 1)) (L' := [(3, .int (nI (i + 1))), (0, .ref (b + 1)), (1, .int x), (2, .int (nI t))]) B 3 rfl (nI_1 _) (by decide) rfl dX0_findWire_26 ?_
        refine zv_goto (pc := 29) (tgt := 2) B rfl dX0_findWire_29 ?_
        refine zv_loc (L' := [(0, .ref (b + 1)), (1, .int x), (2, .int (nI t)), (3, .int (nI (i + 1)))]) [1, 2, 3, 0] rfl ?_
        exact ih (i + 1)  (by omega) (Eq.trans (by rw [g1_X0_findWire, if_neg h3]) hE901) hK
      · refine zv_iload_n (pc := 24) B 3 rfl dX0_findWire_24 ?_
        have hE4 : nI i = m_X0_findWire c x t := (Eq.trans (by rw [g1_X0_findWire, if_pos h3]) hE901)
        exact zv_iret (pc := 25) B (nI i) hr (fun H hP => ⟨(), (congrArg (fun z => some (Value.int z)) hE4), hP⟩) (Nat.le_of_ble_eq_true rfl) (Nat.le_of_ble_eq_true rfl) dX0_findWire_25
  refine zv_loc (L' := [(0, .ref (b + 1)), (1, .int x), (2, .int (nI t)), (3, .int 0)]) [1, 2, 3, 0] rfl ?_
  refine loop1 (fun i => (-1)) (zn (c 10 t)) 0  (by omega) (by unfold m_X0_findWire; rfl) ?_
  intro i hx
  intro (hE951 : (-1) = m_X0_findWire c x t)
  refine zv_iconst (pc := 32) (v := (-1)) B rfl dX0_findWire_32 ?_
  have hE5 : (-1) = m_X0_findWire c x t := hE951
  exact zv_iret (pc := 33) B ((-1)) hr (fun H hP => ⟨(), (congrArg (fun z => some (Value.int z)) hE5), hP⟩) (Nat.le_of_ble_eq_true rfl) (Nat.le_of_ble_eq_true rfl) dX0_findWire_33

def g1_X0_hasWireFrom (c : Nat → Nat → Int32) (t : Nat) (x : Int32)  : Nat → Nat → (Nat → Int32) → Int32
  | 0, i, K => K i
  | n + 1, i, K => if (r_X0_isIn x (c (12 + t) i)) = 0 then (g1_X0_hasWireFrom c t x n (i + 1) K) else 1
def m_X0_hasWireFrom (c : Nat → Nat → Int32) (t : Nat) (x : Int32) : Int32 := g1_X0_hasWireFrom c t x (zn (c 10 t)) 0 (fun i => 0)
set_option maxRecDepth 100000 in
set_option maxHeartbeats 4000000 in
theorem k_X0_hasWireFrom (l : Launch) (E : zE) (b : Nat) (c : Nat → Nat → Int32) (w : Nat → Int64) (en : Nat → Nat) (ea : Nat → Nat → Int32) {t : Nat} (ht : t < 10) (x : Int32) (hg : zG c) : zM l yX0_hasWireFrom (.code yX0_hasWireFrom cX0_hasWireFrom 4 (some .boolean) :: zAll) (zRm 1 0 0) E b [.ref (b + 1), .int (nI t), .int x] (zH E b c w en ea) (fun v9 (_ : Unit) => v9 = some (.int (m_X0_hasWireFrom c t x))) (fun _ => zH E b c w en ea) 0 0 := by
  refine zM_of "ToneGraph$Board" (by decide) rfl rfl (Nat.le_of_ble_eq_true rfl) (L0 := [(0, .ref (b + 1)), (1, .int (nI t)), (2, .int x)]) rfl ?_
  intro p e s m args below meth c9 B hr hname
  have hN : zn (c 10 t) ≤ 4 := hg 10 t
  refine zv_iconst (pc := 0) (v := 0) B rfl dX0_hasWireFrom_0 ?_
  refine zv_istore_n (pc := 1) (L' := [(3, .int 0), (0, .ref (b + 1)), (1, .int (nI t)), (2, .int x)]) B (by decide) rfl dX0_hasWireFrom_1 ?_
  have loop1 : ∀ (K : Nat → Int32) (n : Nat) (i : Nat), i + n = zn (c 10 t) → g1_X0_hasWireFrom c t x n i K = m_X0_hasWireFrom c t x → (∀ (i : Nat), i ≤ zn (c 10 t) → K i = m_X0_hasWireFrom c t x → zV p l e (zRm 1 0 0) s m args below meth c9 (MQ below (zQ b (fun v9 (_ : Unit) => v9 = some (.int (m_X0_hasWireFrom c t x))) (fun _ => zH E b c w en ea)) args s 0 0 (zA b)) 4 b (zH E b c w en ea) 35 [(0, .ref (b + 1)), (1, .int (nI t)), (2, .int x), (3, .int (nI i))] [] 0 0) → zV p l e (zRm 1 0 0) s m args below meth c9 (MQ below (zQ b (fun v9 (_ : Unit) => v9 = some (.int (m_X0_hasWireFrom c t x))) (fun _ => zH E b c w en ea)) args s 0 0 (zA b)) 4 b (zH E b c w en ea) 2 [(0, .ref (b + 1)), (1, .int (nI t)), (2, .int x), (3, .int (nI i))] [] 0 0 := by
    intro K n
    induction n with
    | zero =>
      intro i hi hE901 hK
      refine zv_iload_n (pc := 2) B 3 rfl dX0_hasWireFrom_2 ?_
      refine zv_aload_n (pc := 3) B 0 rfl dX0_hasWireFrom_3 ?_
      refine zv_get (pc := 4) (v := .ref (b + 10)) B (zat (by decide) (z1 _ _ _)) cl0 inX0 10 (by decide) wf_X0_37 rfl dX0_hasWireFrom_4 ?_
      refine zv_iload_n (pc := 7) B 1 rfl dX0_hasWireFrom_7 ?_
      refine zv_iald (pc := 8) (jj := t) B (zat (by decide) (z10 _ _ _)) rfl ht (by decide) dX0_hasWireFrom_8 ?_
      refine zv_icmp_ge (pc := 9) (tgt := 35) B dX0_hasWireFrom_9 rfl (fun _ => ?_) (fun h9 => absurd ((z_le (a := (zn (c 10 t))) (b := i) (zn_eq (c 10 t)) rfl (by have h8 := (show zn _ ≤ 4 from hg 10 t); omega) (by have h8 := (show zn _ ≤ 4 from hg 10 t); omega)).mpr (by have h8 := (show zn _ ≤ 4 from hg 10 t); omega)) h9)
      exact hK i  (by omega) (Eq.trans (by rw [g1_X0_hasWireFrom]) hE901)
    | succ n ih =>
      intro i hi hE901 hK
      refine zv_iload_n (pc := 2) B 3 rfl dX0_hasWireFrom_2 ?_
      refine zv_aload_n (pc := 3) B 0 rfl dX0_hasWireFrom_3 ?_
      refine zv_get (pc := 4) (v := .ref (b + 10)) B (zat (by decide) (z1 _ _ _)) cl0 inX0 10 (by decide) wf_X0_37 rfl dX0_hasWireFrom_4 ?_
      refine zv_iload_n (pc := 7) B 1 rfl dX0_hasWireFrom_7 ?_
      refine zv_iald (pc := 8) (jj := t) B (zat (by decide) (z10 _ _ _)) rfl ht (by decide) dX0_hasWireFrom_8 ?_
      refine zv_icmp_ge (pc := 9) (tgt := 35) B dX0_hasWireFrom_9 rfl (fun h9 => absurd h9 (fun q9 => absurd ((z_le (a := (zn (c 10 t))) (b := i) (zn_eq (c 10 t)) rfl (by have h8 := (show zn _ ≤ 4 from hg 10 t); omega) (by have h8 := (show zn _ ≤ 4 from hg 10 t); omega)).mp q9) (by have h8 := (show zn _ ≤ 4 from hg 10 t); omega))) (fun _ => ?_)
      refine zv_iload_n (pc := 12) B 2 rfl dX0_hasWireFrom_12 ?_
      refine zv_aload_n (pc := 13) B 0 rfl dX0_hasWireFrom_13 ?_
      refine zv_get (pc := 14) (v := .ref (b + 11)) B (zat (by decide) (z1 _ _ _)) cl0 inX0 11 (by decide) wf_X0_42 rfl dX0_hasWireFrom_14 ?_
      refine zv_iload_n (pc := 17) B 1 rfl dX0_hasWireFrom_17 ?_
      refine zv_rald (pc := 18) (jj := t) (q1 := b + (12 + t)) B (zat (by decide) (z11 _ _ _)) rfl ht (by decide) (if_pos ht) dX0_hasWireFrom_18 ?_
      refine zv_iload_n (pc := 19) B 3 rfl dX0_hasWireFrom_19 ?_
      refine zv_iald (pc := 20) (jj := i) B (zat (by have h9 : t < 10 := ht; omega) (zsrc ht _ _ _)) rfl (by omega) (by decide) dX0_hasWireFrom_20 ?_
      refine zv_callS (pc := 21) (As := [.int x, .int (c (12 + t) i)]) (rest := []) B (k_X0_isIn l E b x (c (12 + t) i)) (zcwS 2 0 B wm_X0_62 ws_X0_isIn wn_X0 wcode_X0_isIn (by decide +kernel) ⟨(Nat.le_of_ble_eq_true rfl), (Nat.le_of_ble_eq_true rfl)⟩) rfl zid rfl (Nat.le_of_ble_eq_true rfl) dX0_hasWireFrom_21 ⟨(Nat.le_of_ble_eq_true rfl), (Nat.le_of_ble_eq_true rfl)⟩ (fun v9 u9 hv9 => ?_)
      subst hv9
      refine zv_st (st' := [.int (r_X0_isIn x (c (12 + t) i))]) rfl ?_
      refine zv_if_eq (pc := 24) (tgt := 29) B dX0_hasWireFrom_24 rfl (fun h3 => ?_) (fun h3 => ?_)
      · refine zv_iinc (pc := 29) (v := nI (i + 1)) (L' := [(3, .int (nI (i + 1))), (0, .ref (b + 1)), (1, .int (nI t)), (2, .int x)]) B 3 rfl (nI_1 _) (by decide) rfl dX0_hasWireFrom_29 ?_
        refine zv_goto (pc := 32) (tgt := 2) B rfl dX0_hasWireFrom_32 ?_
        refine zv_loc (L' := [(0, .ref (b + 1)), (1, .int (nI t)), (2, .int x), (3, .int (nI (i + 1)))]) [1, 2, 3, 0] rfl ?_
        exact ih (i + 1)  (by omega) (Eq.trans (by rw [g1_X0_hasWireFrom, if_pos h3]) hE901) hK
      · refine zv_iconst (pc := 27) (v := 1) B rfl dX0_hasWireFrom_27 ?_
        have hE4 : 1 = m_X0_hasWireFrom c t x := (Eq.trans (by rw [g1_X0_hasWireFrom, if_neg h3]) hE901)
        exact zv_zret (pc := 28) B (1) rfl hr (fun H hP => ⟨(), (congrArg (fun z => some (Value.int z)) hE4), hP⟩) (Nat.le_of_ble_eq_true rfl) (Nat.le_of_ble_eq_true rfl) dX0_hasWireFrom_28
  refine zv_loc (L' := [(0, .ref (b + 1)), (1, .int (nI t)), (2, .int x), (3, .int 0)]) [1, 2, 3, 0] rfl ?_
  refine loop1 (fun i => 0) (zn (c 10 t)) 0  (by omega) (by unfold m_X0_hasWireFrom; rfl) ?_
  intro i hx
  intro (hE951 : 0 = m_X0_hasWireFrom c t x)
  refine zv_iconst (pc := 35) (v := 0) B rfl dX0_hasWireFrom_35 ?_
  have hE5 : 0 = m_X0_hasWireFrom c t x := hE951
  exact zv_zret (pc := 36) B (0) rfl hr (fun H hP => ⟨(), (congrArg (fun z => some (Value.int z)) hE5), hP⟩) (Nat.le_of_ble_eq_true rfl) (Nat.le_of_ble_eq_true rfl) dX0_hasWireFrom_36

def g1_X0_lowestReady (c : Nat → Nat → Int32) (x : Int32)  : Nat → Nat → (Nat → Int32) → Int32
  | 0, i, K => K i
  | n + 1, i, K => if (r_X0_isIn x (nI i)) = 0 then (if (c 2 i) = 100 then (nI i) else (if (m_X0_hasWireFrom c i (x ^^^ (-1))) = 0 then (nI i) else (g1_X0_lowestReady c x n (i + 1) K))) else (g1_X0_lowestReady c x n (i + 1) K)
def m_X0_lowestReady (c : Nat → Nat → Int32) (x : Int32) : Int32 := g1_X0_lowestReady c x (zn (c 1 0)) 0 (fun i => 0)
set_option maxRecDepth 100000 in
set_option maxHeartbeats 4000000 in
theorem k_X0_lowestReady (l : Launch) (E : zE) (b : Nat) (c : Nat → Nat → Int32) (w : Nat → Int64) (en : Nat → Nat) (ea : Nat → Nat → Int32) (x : Int32) (hg : zG c) : zM l yX0_lowestReady (.code yX0_lowestReady cX0_lowestReady 3 (some .int) :: zAll) (zRm 2 0 0) E b [.ref (b + 1), .int x] (zH E b c w en ea) (fun v9 (_ : Unit) => v9 = some (.int (m_X0_lowestReady c x))) (fun _ => zH E b c w en ea) 0 0 := by
  refine zM_of "ToneGraph$Board" (by decide) rfl rfl (Nat.le_of_ble_eq_true rfl) (L0 := [(0, .ref (b + 1)), (1, .int x)]) rfl ?_
  intro p e s m args below meth c9 B hr hname
  have hcn : zn (c 1 0) ≤ 10 := hg 1 0
  refine zv_iconst (pc := 0) (v := 0) B rfl dX0_lowestReady_0 ?_
  refine zv_istore_n (pc := 1) (L' := [(2, .int 0), (0, .ref (b + 1)), (1, .int x)]) B (by decide) rfl dX0_lowestReady_1 ?_
  have loop1 : ∀ (K : Nat → Int32) (n : Nat) (i : Nat), i + n = zn (c 1 0) → g1_X0_lowestReady c x n i K = m_X0_lowestReady c x → (∀ (i : Nat), i ≤ zn (c 1 0) → K i = m_X0_lowestReady c x → zV p l e (zRm 2 0 0) s m args below meth c9 (MQ below (zQ b (fun v9 (_ : Unit) => v9 = some (.int (m_X0_lowestReady c x))) (fun _ => zH E b c w en ea)) args s 0 0 (zA b)) 3 b (zH E b c w en ea) 48 [(0, .ref (b + 1)), (1, .int x), (2, .int (nI i))] [] 0 0) → zV p l e (zRm 2 0 0) s m args below meth c9 (MQ below (zQ b (fun v9 (_ : Unit) => v9 = some (.int (m_X0_lowestReady c x))) (fun _ => zH E b c w en ea)) args s 0 0 (zA b)) 3 b (zH E b c w en ea) 2 [(0, .ref (b + 1)), (1, .int x), (2, .int (nI i))] [] 0 0 := by
    intro K n
    induction n with
    | zero =>
      intro i hi hE901 hK
      refine zv_iload_n (pc := 2) B 2 rfl dX0_lowestReady_2 ?_
      refine zv_aload_n (pc := 3) B 0 rfl dX0_lowestReady_3 ?_
      refine zv_get (pc := 4) (v := .int (c 1 0)) B (zat (by decide) (z1 _ _ _)) cl0 inX0 0 (by decide) wf_X0_51 rfl dX0_lowestReady_4 ?_
      refine zv_icmp_ge (pc := 7) (tgt := 48) B dX0_lowestReady_7 rfl (fun _ => ?_) (fun h9 => absurd ((z_le (a := (zn (c 1 0))) (b := i) (zn_eq (c 1 0)) rfl (by have h8 := (show zn _ ≤ 10 from hg 1 0); omega) (by have h8 := (show zn _ ≤ 10 from hg 1 0); omega)).mpr (by have h8 := (show zn _ ≤ 10 from hg 1 0); omega)) h9)
      exact hK i  (by omega) (Eq.trans (by rw [g1_X0_lowestReady]) hE901)
    | succ n ih =>
      intro i hi hE901 hK
      refine zv_iload_n (pc := 2) B 2 rfl dX0_lowestReady_2 ?_
      refine zv_aload_n (pc := 3) B 0 rfl dX0_lowestReady_3 ?_
      refine zv_get (pc := 4) (v := .int (c 1 0)) B (zat (by decide) (z1 _ _ _)) cl0 inX0 0 (by decide) wf_X0_51 rfl dX0_lowestReady_4 ?_
      refine zv_icmp_ge (pc := 7) (tgt := 48) B dX0_lowestReady_7 rfl (fun h9 => absurd h9 (fun q9 => absurd ((z_le (a := (zn (c 1 0))) (b := i) (zn_eq (c 1 0)) rfl (by have h8 := (show zn _ ≤ 10 from hg 1 0); omega) (by have h8 := (show zn _ ≤ 10 from hg 1 0); omega)).mp q9) (by have h8 := (show zn _ ≤ 10 from hg 1 0); omega))) (fun _ => ?_)
      refine zv_iload_n (pc := 10) B 1 rfl dX0_lowestReady_10 ?_
      refine zv_iload_n (pc := 11) B 2 rfl dX0_lowestReady_11 ?_
      refine zv_callS (pc := 12) (As := [.int x, .int (nI i)]) (rest := []) B (k_X0_isIn l E b x (nI i)) (zcwS 2 0 B wm_X0_62 ws_X0_isIn wn_X0 wcode_X0_isIn (by decide +kernel) ⟨(Nat.le_of_ble_eq_true rfl), (Nat.le_of_ble_eq_true rfl)⟩) rfl zid rfl (Nat.le_of_ble_eq_true rfl) dX0_lowestReady_12 ⟨(Nat.le_of_ble_eq_true rfl), (Nat.le_of_ble_eq_true rfl)⟩ (fun v9 u9 hv9 => ?_)
      subst hv9
      refine zv_st (st' := [.int (r_X0_isIn x (nI i))]) rfl ?_
      refine zv_if_ne (pc := 15) (tgt := 42) B dX0_lowestReady_15 rfl (fun h3 => ?_) (fun h3 => ?_)
      · refine zv_iinc (pc := 42) (v := nI (i + 1)) (L' := [(2, .int (nI (i + 1))), (0, .ref (b + 1)), (1, .int x)]) B 2 rfl (nI_1 _) (by decide) rfl dX0_lowestReady_42 ?_
        refine zv_goto (pc := 45) (tgt := 2) B rfl dX0_lowestReady_45 ?_
        refine zv_loc (L' := [(0, .ref (b + 1)), (1, .int x), (2, .int (nI (i + 1)))]) [1, 2, 0] rfl ?_
        exact ih (i + 1)  (by omega) (Eq.trans (by rw [g1_X0_lowestReady, if_neg h3]) hE901) hK
      · refine zv_aload_n (pc := 18) B 0 rfl dX0_lowestReady_18 ?_
        refine zv_get (pc := 19) (v := .ref (b + 2)) B (zat (by decide) (z1 _ _ _)) cl0 inX0 2 (by decide) wf_X0_9 rfl dX0_lowestReady_19 ?_
        refine zv_iload_n (pc := 22) B 2 rfl dX0_lowestReady_22 ?_
        refine zv_cald (pc := 23) (jj := i) B (zat (by decide) (z2 _ _ _)) rfl (by omega) (by decide) dX0_lowestReady_23 ?_
        refine zv_bipush (pc := 24) (v := 100) B rfl dX0_lowestReady_24 ?_
        refine zv_icmp_eq (pc := 26) (tgt := 40) B dX0_lowestReady_26 rfl (fun h4 => ?_) (fun h4 => ?_)
        · refine zv_iload_n (pc := 40) B 2 rfl dX0_lowestReady_40 ?_
          have hE5 : nI i = m_X0_lowestReady c x := (Eq.trans (by rw [g1_X0_lowestReady, if_pos h3, if_pos h4]) hE901)
          exact zv_iret (pc := 41) B (nI i) hr (fun H hP => ⟨(), (congrArg (fun z => some (Value.int z)) hE5), hP⟩) (Nat.le_of_ble_eq_true rfl) (Nat.le_of_ble_eq_true rfl) dX0_lowestReady_41
        · refine zv_aload_n (pc := 29) B 0 rfl dX0_lowestReady_29 ?_
          refine zv_iload_n (pc := 30) B 2 rfl dX0_lowestReady_30 ?_
          refine zv_iload_n (pc := 31) B 1 rfl dX0_lowestReady_31 ?_
          refine zv_iconst (pc := 32) (v := (-1)) B rfl dX0_lowestReady_32 ?_
          refine zv_ixor (pc := 33) B dX0_lowestReady_33 ?_
          refine zv_callV (pc := 34) (As := [.int (nI i), .int (x ^^^ (-1))]) (rest := []) B (k_X0_hasWireFrom l E b _ _ _ _  (by omega) (x ^^^ (-1)) hg) (zcwV 2 1 B wm_X0_58 wi_X0_hasWireFrom wv_X0_hasWireFrom wn_X0 wcode_X0_hasWireFrom rfl (by decide +kernel) ⟨(Nat.le_of_ble_eq_true rfl), (Nat.le_of_ble_eq_true rfl)⟩) rfl (zrecv B (zat (by decide) (z1 _ _ _)) cl0) zid rfl (Nat.le_of_ble_eq_true rfl) dX0_lowestReady_34 ⟨(Nat.le_of_ble_eq_true rfl), (Nat.le_of_ble_eq_true rfl)⟩ (fun v9 u9 hv9 => ?_)
          subst hv9
          refine zv_st (st' := [.int (m_X0_hasWireFrom c i (x ^^^ (-1)))]) rfl ?_
          refine zv_if_ne (pc := 37) (tgt := 42) B dX0_lowestReady_37 rfl (fun h6 => ?_) (fun h6 => ?_)
          · refine zv_iinc (pc := 42) (v := nI (i + 1)) (L' := [(2, .int (nI (i + 1))), (0, .ref (b + 1)), (1, .int x)]) B 2 rfl (nI_1 _) (by decide) rfl dX0_lowestReady_42 ?_
            refine zv_goto (pc := 45) (tgt := 2) B rfl dX0_lowestReady_45 ?_
            refine zv_loc (L' := [(0, .ref (b + 1)), (1, .int x), (2, .int (nI (i + 1)))]) [1, 2, 0] rfl ?_
            exact ih (i + 1)  (by omega) (Eq.trans (by rw [g1_X0_lowestReady, if_pos h3, if_neg h4, if_neg h6]) hE901) hK
          · refine zv_iload_n (pc := 40) B 2 rfl dX0_lowestReady_40 ?_
            have hE7 : nI i = m_X0_lowestReady c x := (Eq.trans (by rw [g1_X0_lowestReady, if_pos h3, if_neg h4, if_pos h6]) hE901)
            exact zv_iret (pc := 41) B (nI i) hr (fun H hP => ⟨(), (congrArg (fun z => some (Value.int z)) hE7), hP⟩) (Nat.le_of_ble_eq_true rfl) (Nat.le_of_ble_eq_true rfl) dX0_lowestReady_41
  refine zv_loc (L' := [(0, .ref (b + 1)), (1, .int x), (2, .int 0)]) [1, 2, 0] rfl ?_
  refine loop1 (fun i => 0) (zn (c 1 0)) 0  (by omega) (by unfold m_X0_lowestReady; rfl) ?_
  intro i hx
  intro (hE951 : 0 = m_X0_lowestReady c x)
  refine zv_iconst (pc := 48) (v := 0) B rfl dX0_lowestReady_48 ?_
  have hE8 : 0 = m_X0_lowestReady c x := hE951
  exact zv_iret (pc := 49) B (0) hr (fun H hP => ⟨(), (congrArg (fun z => some (Value.int z)) hE8), hP⟩) (Nat.le_of_ble_eq_true rfl) (Nat.le_of_ble_eq_true rfl) dX0_lowestReady_49

theorem lr_le {c : Nat → Nat → Int32} (hg : zG c) (x : Int32) : zn (m_X0_lowestReady c x) ≤ 9 := by
  have hcn : zn (c 1 0) ≤ 10 := hg 1 0
  have h : ∀ (n i : Nat) (K : Nat → Int32), i + n ≤ 10 → (∀ i, zn (K i) ≤ 9) → zn (g1_X0_lowestReady c x n i K) ≤ 9 := by
    intro n
    induction n with
    | zero => intro i K _ hK; rw [g1_X0_lowestReady]; exact hK i
    | succ n ih =>
      intro i K hi hK
      rw [g1_X0_lowestReady]
      have h1 := ih (i + 1) K (by omega) hK
      have h2 : zn (nI i) ≤ 9 := by rw [zn_nI (by omega)]; omega
      repeat' split
      all_goals first | exact h1 | exact h2
  unfold m_X0_lowestReady
  exact h _ _ _ (by omega) (fun _ => by decide)

def g1_X0_arrange (c : Nat → Nat → Int32)  : Nat → Nat → Int32 → (Nat → Nat → Int32) → (Nat → Int32 → (Nat → Nat → Int32) → (Nat → Nat → Int32)) → (Nat → Nat → Int32)
  | 0, i, x, c1, K => K i x c1
  | n + 1, i, x, c1, K => g1_X0_arrange c n (i + 1) (x ||| (1 <<< ((m_X0_lowestReady c1 x) &&& 31))) (zup c1 33 i (m_X0_lowestReady c1 x)) K
def m_X0_arrange (c : Nat → Nat → Int32) : (Nat → Nat → Int32) := g1_X0_arrange c (zn (c 1 0)) 0 0 c (fun i x c1 => c1)
set_option maxRecDepth 100000 in
set_option maxHeartbeats 4000000 in
theorem k_X0_arrange (l : Launch) (E : zE) (b : Nat) (c : Nat → Nat → Int32) (w : Nat → Int64) (en : Nat → Nat) (ea : Nat → Nat → Int32)  (hg : zG c) : zM l yX0_arrange (.code yX0_arrange cX0_arrange 4 none :: zAll) (zRm 3 0 0) E b [.ref (b + 1)] (zH E b c w en ea) (fun v9 (_ : Unit) => v9 = none ∧ zfr 33 34 33 33 c (m_X0_arrange c) ∧ zG (m_X0_arrange c)) (fun _ => zH E b (m_X0_arrange c) w en ea) 0 0 := by
  refine zM_of "ToneGraph$Board" (by decide) rfl rfl (Nat.le_of_ble_eq_true rfl) (L0 := [(0, .ref (b + 1))]) rfl ?_
  intro p e s m args below meth c9 B hr hname
  have hcn : zn (c 1 0) ≤ 10 := hg 1 0
  refine zv_iconst (pc := 0) (v := 0) B rfl dX0_arrange_0 ?_
  refine zv_istore_n (pc := 1) (L' := [(1, .int 0), (0, .ref (b + 1))]) B (by decide) rfl dX0_arrange_1 ?_
  refine zv_iconst (pc := 2) (v := 0) B rfl dX0_arrange_2 ?_
  refine zv_istore_n (pc := 3) (L' := [(2, .int 0), (1, .int 0), (0, .ref (b + 1))]) B (by decide) rfl dX0_arrange_3 ?_
  have loop1 : ∀ (K : Nat → Int32 → (Nat → Nat → Int32) → (Nat → Nat → Int32)) (n : Nat) (i : Nat) (x : Int32) (c1 : Nat → Nat → Int32), zfr 33 34 33 33 c c1 → zG c1 → i + n = zn (c 1 0) → g1_X0_arrange c n i x c1 K = m_X0_arrange c → (∀ (i : Nat) (x : Int32) (c1 : Nat → Nat → Int32), zfr 33 34 33 33 c c1 → zG c1 → i ≤ zn (c 1 0) → K i x c1 = m_X0_arrange c → zV p l e (zRm 3 0 0) s m args below meth c9 (MQ below (zQ b (fun v9 (_ : Unit) => v9 = none ∧ zfr 33 34 33 33 c (m_X0_arrange c) ∧ zG (m_X0_arrange c)) (fun _ => zH E b (m_X0_arrange c) w en ea)) args s 0 0 (zA b)) 4 b (zH E b c1 w en ea) 37 [(0, .ref (b + 1)), (2, .int (nI i)), (1, .int x)] [] 0 0) → zV p l e (zRm 3 0 0) s m args below meth c9 (MQ below (zQ b (fun v9 (_ : Unit) => v9 = none ∧ zfr 33 34 33 33 c (m_X0_arrange c) ∧ zG (m_X0_arrange c)) (fun _ => zH E b (m_X0_arrange c) w en ea)) args s 0 0 (zA b)) 4 b (zH E b c1 w en ea) 4 [(0, .ref (b + 1)), (2, .int (nI i)), (1, .int x)] [] 0 0 := by
    intro K n
    induction n with
    | zero =>
      intro i x c1 hF1 hg1 hi hE901 hK
      refine zv_iload_n (pc := 4) B 1 rfl dX0_arrange_4 ?_
      refine zv_aload_n (pc := 5) B 0 rfl dX0_arrange_5 ?_
      refine zv_get (pc := 6) (v := .int (c1 1 0)) B (zat (by decide) (z1 _ _ _)) cl0 inX0 0 (by decide) wf_X0_51 rfl dX0_arrange_6 ?_
      refine zv_topi (y := c 1 0) (by rw [hF1 1 (by omega)]) ?_
      refine zv_icmp_ge (pc := 9) (tgt := 37) B dX0_arrange_9 rfl (fun _ => ?_) (fun h9 => absurd ((z_le (a := (zn (c 1 0))) (b := i) (zn_eq (c 1 0)) rfl (by have h8 := (show zn _ ≤ 10 from hg 1 0); omega) (by have h8 := (show zn _ ≤ 10 from hg 1 0); omega)).mpr (by have h8 := (show zn _ ≤ 10 from hg 1 0); omega)) h9)
      exact hK i x c1 hF1 hg1 (by omega) (Eq.trans (by rw [g1_X0_arrange]) hE901)
    | succ n ih =>
      intro i x c1 hF1 hg1 hi hE901 hK
      refine zv_iload_n (pc := 4) B 1 rfl dX0_arrange_4 ?_
      refine zv_aload_n (pc := 5) B 0 rfl dX0_arrange_5 ?_
      refine zv_get (pc := 6) (v := .int (c1 1 0)) B (zat (by decide) (z1 _ _ _)) cl0 inX0 0 (by decide) wf_X0_51 rfl dX0_arrange_6 ?_
      refine zv_topi (y := c 1 0) (by rw [hF1 1 (by omega)]) ?_
      refine zv_icmp_ge (pc := 9) (tgt := 37) B dX0_arrange_9 rfl (fun h9 => absurd h9 (fun q9 => absurd ((z_le (a := (zn (c 1 0))) (b := i) (zn_eq (c 1 0)) rfl (by have h8 := (show zn _ ≤ 10 from hg 1 0); omega) (by have h8 := (show zn _ ≤ 10 from hg 1 0); omega)).mp q9) (by have h8 := (show zn _ ≤ 10 from hg 1 0); omega))) (fun _ => ?_)
      refine zv_aload_n (pc := 12) B 0 rfl dX0_arrange_12 ?_
      refine zv_iload_n (pc := 13) B 2 rfl dX0_arrange_13 ?_
      refine zv_callV (pc := 14) (As := [.int x]) (rest := []) B (k_X0_lowestReady l E b _ _ _ _  x hg1) (zcwV 1 2 B wm_X0_65 wi_X0_lowestReady wv_X0_lowestReady wn_X0 wcode_X0_lowestReady rfl (by decide +kernel) ⟨(Nat.le_of_ble_eq_true rfl), (Nat.le_of_ble_eq_true rfl)⟩) rfl (zrecv B (zat (by decide) (z1 _ _ _)) cl0) zid rfl (Nat.le_of_ble_eq_true rfl) dX0_arrange_14 ⟨(Nat.le_of_ble_eq_true rfl), (Nat.le_of_ble_eq_true rfl)⟩ (fun v9 u9 hv9 => ?_)
      subst hv9
      refine zv_st (st' := [.int (m_X0_lowestReady c1 x)]) rfl ?_
      refine zv_istore_n (pc := 17) (L' := [(3, .int (m_X0_lowestReady c1 x)), (0, .ref (b + 1)), (2, .int (nI i)), (1, .int x)]) B (by decide) rfl dX0_arrange_17 ?_
      refine zv_aload_n (pc := 18) B 1 rfl dX0_arrange_18 ?_
      refine zv_get (pc := 19) (v := .ref (b + 33)) B (zat (by decide) (z1 _ _ _)) cl0 inX0 13 (by decide) wf_X0_48 rfl dX0_arrange_19 ?_
      refine zv_iload_n (pc := 22) B 2 rfl dX0_arrange_22 ?_
      refine zv_iload_n (pc := 23) B 0 rfl dX0_arrange_23 ?_
      refine zs_iast (pc := 24) (jj := i) B zid (by decide) rfl (fun x w e => z33 x w e) rfl (by omega) (by decide) dX0_arrange_24 ?_
      refine zv_iload_n (pc := 25) B 3 rfl dX0_arrange_25 ?_
      refine zv_iconst (pc := 26) (v := 1) B rfl dX0_arrange_26 ?_
      refine zv_iload_n (pc := 27) B 0 rfl dX0_arrange_27 ?_
      refine zv_ishl (pc := 28) B dX0_arrange_28 ?_
      refine zv_ior (pc := 29) B dX0_arrange_29 ?_
      refine zv_istore_n (pc := 30) (L' := [(1, .int (x ||| (1 <<< ((m_X0_lowestReady c1 x) &&& 31)))), (3, .int (m_X0_lowestReady c1 x)), (0, .ref (b + 1)), (2, .int (nI i))]) B (by decide) rfl dX0_arrange_30 ?_
      refine zv_iinc (pc := 31) (v := nI (i + 1)) (L' := [(2, .int (nI (i + 1))), (1, .int (x ||| (1 <<< ((m_X0_lowestReady c1 x) &&& 31)))), (3, .int (m_X0_lowestReady c1 x)), (0, .ref (b + 1))]) B 3 rfl (nI_1 _) (by decide) rfl dX0_arrange_31 ?_
      refine zv_goto (pc := 34) (tgt := 4) B rfl dX0_arrange_34 ?_
      refine zv_loc (L' := [(0, .ref (b + 1)), (2, .int (nI (i + 1))), (1, .int (x ||| (1 <<< ((m_X0_lowestReady c1 x) &&& 31))))]) [3, 0, 1] rfl ?_
      exact ih (i + 1) (x ||| (1 <<< ((m_X0_lowestReady c1 x) &&& 31))) (zup c1 33 i (m_X0_lowestReady c1 x)) (zfr.up hF1 (by omega)) (zG.up hg1 (show zn _ ≤ 9 from lr_le hg1 _)) (by omega) (Eq.trans (by rw [g1_X0_arrange]) hE901) hK
  refine zv_loc (L' := [(0, .ref (b + 1)), (2, .int 0), (1, .int 0)]) [2, 0, 1] rfl ?_
  refine loop1 (fun i x c1 => c1) (zn (c 1 0)) 0 0 c zfr.refl hg (by omega) (by unfold m_X0_arrange; rfl) ?_
  intro i x c1 hF1 hg1 hx
  intro (hE951 : c1 = m_X0_arrange c)
  have hE3 : c1 = m_X0_arrange c := hE951
  exact zv_vret (pc := 37) B hr (fun H hP => ⟨(), ⟨rfl, Eq.subst (motive := fun z => zfr 33 34 33 33 c z) hE3 hF1, Eq.subst (motive := fun z => zG z) hE3 hg1⟩, Eq.subst (motive := fun z => zH E b z w en ea H) hE3 hP⟩) (Nat.le_of_ble_eq_true rfl) (Nat.le_of_ble_eq_true rfl) dX0_arrange_37

def m_X0_add (c : Nat → Nat → Int32) (x : Int32) : Int32 × (Nat → Nat → Int32) := (c 1 0, (m_X0_arrange (zup (zup c 2 (zn (c 1 0)) x) 1 0 ((c 1 0) + 1))))
set_option maxRecDepth 100000 in
set_option maxHeartbeats 4000000 in
theorem k_X0_add (l : Launch) (E : zE) (b : Nat) (c : Nat → Nat → Int32) (w : Nat → Int64) (en : Nat → Nat) (ea : Nat → Nat → Int32) (x : Int32) (hx : zn x ≤ 65535) (hroom : zn (c 1 0) < 10) (hg : zG c) : zM l yX0_add (.code yX0_add cX0_add 3 (some .int) :: zAll) (zRm 4 0 0) E b [.ref (b + 1), .int x] (zH E b c w en ea) (fun v9 (_ : Unit) => v9 = some (.int (m_X0_add c x).1) ∧ zfr 1 34 1 1 c (m_X0_add c x).2 ∧ zG (m_X0_add c x).2) (fun _ => zH E b ((m_X0_add c x).2) w en ea) 0 0 := by
  refine zM_of "ToneGraph$Board" (by decide) rfl rfl (Nat.le_of_ble_eq_true rfl) (L0 := [(0, .ref (b + 1)), (1, .int x)]) rfl ?_
  intro p e s m args below meth c9 B hr hname
  refine zv_aload_n (pc := 0) B 0 rfl dX0_add_0 ?_
  refine zv_get (pc := 1) (v := .int (c 1 0)) B (zat (by decide) (z1 _ _ _)) cl0 inX0 0 (by decide) wf_X0_51 rfl dX0_add_1 ?_
  refine zv_istore_n (pc := 4) (L' := [(2, .int (c 1 0)), (0, .ref (b + 1)), (1, .int x)]) B (by decide) rfl dX0_add_4 ?_
  refine zv_aload_n (pc := 5) B 1 rfl dX0_add_5 ?_
  refine zv_get (pc := 6) (v := .ref (b + 2)) B (zat (by decide) (z1 _ _ _)) cl0 inX0 2 (by decide) wf_X0_9 rfl dX0_add_6 ?_
  refine zv_iload_n (pc := 9) B 0 rfl dX0_add_9 ?_
  refine zv_iload_n (pc := 10) B 2 rfl dX0_add_10 ?_
  refine zs_cast (pc := 11) (jj := (zn (c 1 0))) B zid (by decide) rfl (fun x w e => z2 x w e) (zn_eq (c 1 0)) hroom (by decide) (znar_c hx) dX0_add_11 ?_
  refine zv_aload_n (pc := 12) B 1 rfl dX0_add_12 ?_
  refine zv_iload_n (pc := 13) B 0 rfl dX0_add_13 ?_
  refine zv_iconst (pc := 14) (v := 1) B rfl dX0_add_14 ?_
  refine zv_iadd (pc := 15) B dX0_add_15 ?_
  refine zs_put9 (pc := 16) (f := 0) (F := fun x9 => [.int (x9 0), .int (x9 1), .ref (b + 2), .ref (b + 3), .ref (b + 4), .ref (b + 5), .ref (b + 6), .ref (b + 7), .ref (b + 8), .ref (b + 9), .ref (b + 10), .ref (b + 11), .ref (b + 22), .ref (b + 33)]) B zid (by decide) rfl (fun x => z1 x _ _) cl0 inX0 tyX0 tyX0_ok nmX0 (by decide) wf_X0_51 rfl rfl rfl rfl (Nat.le_of_ble_eq_true rfl) (fun _ _ => rfl) dX0_add_16 ?_
  refine zv_aload_n (pc := 19) B 1 rfl dX0_add_19 ?_
  refine zv_callV (pc := 20) (As := []) (rest := []) B (k_X0_arrange l E b _ _ _ _  (zG.up (zG.up hg (show zn _ ≤ 65535 from hx)) (show zn _ ≤ 10 from (zn_inc hroom (by decide))))) (zcwV 0 3 B wm_X0_55 wi_X0_arrange wv_X0_arrange wn_X0 wcode_X0_arrange rfl (by decide +kernel) ⟨(Nat.le_of_ble_eq_true rfl), (Nat.le_of_ble_eq_true rfl)⟩) rfl (zrecv B (zat (by decide) (z1 _ _ _)) cl0) zid rfl (Nat.le_of_ble_eq_true rfl) dX0_add_20 ⟨(Nat.le_of_ble_eq_true rfl), (Nat.le_of_ble_eq_true rfl)⟩ (fun v9 u9 hv9 => ?_)
  obtain ⟨rfl, hF2001, hg2001⟩ := hv9
  refine zv_st (st' := []) rfl ?_
  refine zv_iload_n (pc := 23) B 0 rfl dX0_add_23 ?_
  have hE2 : (c 1 0, (m_X0_arrange (zup (zup c 2 (zn (c 1 0)) x) 1 0 ((c 1 0) + 1)))) = m_X0_add c x := (by unfold m_X0_add; rfl)
  exact zv_iret (pc := 24) B (c 1 0) hr (fun H hP => ⟨(), ⟨(congrArg (fun z => some (Value.int z.1)) hE2), Eq.subst (motive := fun z => zfr 1 34 1 1 c z.2) hE2 (zfr.call (zfr.up (zfr.up zfr.refl (by omega)) (by omega)) hF2001 (by omega)), Eq.subst (motive := fun z => zG z.2) hE2 hg2001⟩, Eq.subst (motive := fun z => zH E b z.2 w en ea H) hE2 hP⟩) (Nat.le_of_ble_eq_true rfl) (Nat.le_of_ble_eq_true rfl) dX0_add_24

def m_X0_addWire (c : Nat → Nat → Int32) (x : Int32) (t : Nat) (y : Int32) : Int32 × (Nat → Nat → Int32) := ((c 10 t) + 1, (m_X0_arrange (zup (zup (zup c (12 + t) (zn (c 10 t)) x) (23 + t) (zn (c 10 t)) y) 10 t ((c 10 t) + 1))))
set_option maxRecDepth 100000 in
set_option maxHeartbeats 4000000 in
theorem k_X0_addWire (l : Launch) (E : zE) (b : Nat) (c : Nat → Nat → Int32) (w : Nat → Int64) (en : Nat → Nat) (ea : Nat → Nat → Int32) (x : Int32) (hx : zn x ≤ 9) {t : Nat} (ht : t < 10) (y : Int32) (hw : zn (c 10 t) < 4) (hg : zG c) : zM l yX0_addWire (.code yX0_addWire cX0_addWire 5 (some .int) :: zAll) (zRm 4 0 0) E b [.ref (b + 1), .int x, .int (nI t), .int y] (zH E b c w en ea) (fun v9 (_ : Unit) => v9 = some (.int (m_X0_addWire c x t y).1) ∧ zfr 10 34 10 10 c (m_X0_addWire c x t y).2 ∧ zG (m_X0_addWire c x t y).2) (fun _ => zH E b ((m_X0_addWire c x t y).2) w en ea) 0 0 := by
  refine zM_of "ToneGraph$Board" (by decide) rfl rfl (Nat.le_of_ble_eq_true rfl) (L0 := [(0, .ref (b + 1)), (1, .int x), (2, .int (nI t)), (3, .int y)]) rfl ?_
  intro p e s m args below meth c9 B hr hname
  refine zv_aload_n (pc := 0) B 0 rfl dX0_addWire_0 ?_
  refine zv_get (pc := 1) (v := .ref (b + 10)) B (zat (by decide) (z1 _ _ _)) cl0 inX0 10 (by decide) wf_X0_37 rfl dX0_addWire_1 ?_
  refine zv_iload_n (pc := 4) B 2 rfl dX0_addWire_4 ?_
  refine zv_iald (pc := 5) (jj := t) B (zat (by decide) (z10 _ _ _)) rfl ht (by decide) dX0_addWire_5 ?_
  refine zv_istore (pc := 6) (L' := [(4, .int (c 10 t)), (0, .ref (b + 1)), (1, .int x), (2, .int (nI t)), (3, .int y)]) B (by decide) rfl dX0_addWire_6 ?_
  refine zv_aload_n (pc := 8) B 1 rfl dX0_addWire_8 ?_
  refine zv_get (pc := 9) (v := .ref (b + 11)) B (zat (by decide) (z1 _ _ _)) cl0 inX0 11 (by decide) wf_X0_42 rfl dX0_addWire_9 ?_
  refine zv_iload_n (pc := 12) B 3 rfl dX0_addWire_12 ?_
  refine zv_rald (pc := 13) (jj := t) (q1 := b + (12 + t)) B (zat (by decide) (z11 _ _ _)) rfl ht (by decide) (if_pos ht) dX0_addWire_13 ?_
  refine zv_iload (pc := 14) B 0 rfl dX0_addWire_14 ?_
  refine zv_iload_n (pc := 16) B 2 rfl dX0_addWire_16 ?_
  refine zs_iast (pc := 17) (jj := (zn (c 10 t))) B zid (by have h9 : t < 10 := ht; omega) (zsrc_e ht) (fun x w e => zsrc ht x w e) (zn_eq (c 10 t)) hw (by decide) dX0_addWire_17 ?_
  refine zv_aload_n (pc := 18) B 1 rfl dX0_addWire_18 ?_
  refine zv_get (pc := 19) (v := .ref (b + 22)) B (zat (by decide) (z1 _ _ _)) cl0 inX0 12 (by decide) wf_X0_45 rfl dX0_addWire_19 ?_
  refine zv_iload_n (pc := 22) B 3 rfl dX0_addWire_22 ?_
  refine zv_rald (pc := 23) (jj := t) (q1 := b + (23 + t)) B (zat (by decide) (z22 _ _ _)) rfl ht (by decide) (if_pos ht) dX0_addWire_23 ?_
  refine zv_iload (pc := 24) B 0 rfl dX0_addWire_24 ?_
  refine zv_iload_n (pc := 26) B 4 rfl dX0_addWire_26 ?_
  refine zs_iast (pc := 27) (jj := (zn (c 10 t))) B zid (by have h9 : t < 10 := ht; omega) (zshr_e ht) (fun x w e => zshr ht x w e) (zn_eq (c 10 t)) hw (by decide) dX0_addWire_27 ?_
  refine zv_aload_n (pc := 28) B 1 rfl dX0_addWire_28 ?_
  refine zv_get (pc := 29) (v := .ref (b + 10)) B (zat (by decide) (z1 _ _ _)) cl0 inX0 10 (by decide) wf_X0_37 rfl dX0_addWire_29 ?_
  refine zv_iload_n (pc := 32) B 3 rfl dX0_addWire_32 ?_
  refine zv_iload (pc := 33) B 0 rfl dX0_addWire_33 ?_
  refine zv_iconst (pc := 35) (v := 1) B rfl dX0_addWire_35 ?_
  refine zv_iadd (pc := 36) B dX0_addWire_36 ?_
  refine zs_iast (pc := 37) (jj := t) B zid (by decide) rfl (fun x w e => z10 x w e) rfl ht (by decide) dX0_addWire_37 ?_
  refine zv_aload_n (pc := 38) B 1 rfl dX0_addWire_38 ?_
  refine zv_callV (pc := 39) (As := []) (rest := []) B (k_X0_arrange l E b _ _ _ _  (zG.up (zG.free (zG.up hg (by rw [zBd_src ht]; exact hx)) (by have h8 : t < 10 := ht; unfold zfree; omega)) (show zn _ ≤ 4 from (zn_inc hw (by decide))))) (zcwV 0 3 B wm_X0_55 wi_X0_arrange wv_X0_arrange wn_X0 wcode_X0_arrange rfl (by decide +kernel) ⟨(Nat.le_of_ble_eq_true rfl), (Nat.le_of_ble_eq_true rfl)⟩) rfl (zrecv B (zat (by decide) (z1 _ _ _)) cl0) zid rfl (Nat.le_of_ble_eq_true rfl) dX0_addWire_39 ⟨(Nat.le_of_ble_eq_true rfl), (Nat.le_of_ble_eq_true rfl)⟩ (fun v9 u9 hv9 => ?_)
  obtain ⟨rfl, hF2001, hg2001⟩ := hv9
  refine zv_st (st' := []) rfl ?_
  refine zv_aload_n (pc := 42) B 1 rfl dX0_addWire_42 ?_
  refine zv_get (pc := 43) (v := .ref (b + 10)) B (zat (by decide) (z1 _ _ _)) cl0 inX0 10 (by decide) wf_X0_37 rfl dX0_addWire_43 ?_
  refine zv_iload_n (pc := 46) B 3 rfl dX0_addWire_46 ?_
  refine zv_iald (pc := 47) (jj := t) B (zat (by decide) (z10 _ _ _)) rfl ht (by decide) dX0_addWire_47 ?_
  refine zv_topi (y := (c 10 t) + 1) (by rw [hF2001 10 (by omega), zup_s]) ?_
  have hE2 : ((c 10 t) + 1, (m_X0_arrange (zup (zup (zup c (12 + t) (zn (c 10 t)) x) (23 + t) (zn (c 10 t)) y) 10 t ((c 10 t) + 1)))) = m_X0_addWire c x t y := (by unfold m_X0_addWire; rfl)
  exact zv_iret (pc := 48) B ((c 10 t) + 1) hr (fun H hP => ⟨(), ⟨(congrArg (fun z => some (Value.int z.1)) hE2), Eq.subst (motive := fun z => zfr 10 34 10 10 c z.2) hE2 (zfr.call (zfr.up (zfr.up (zfr.up zfr.refl (by have h8 : t < 10 := ht; omega)) (by have h8 : t < 10 := ht; omega)) (by omega)) hF2001 (by omega)), Eq.subst (motive := fun z => zG z.2) hE2 hg2001⟩, Eq.subst (motive := fun z => zH E b z.2 w en ea H) hE2 hP⟩) (Nat.le_of_ble_eq_true rfl) (Nat.le_of_ble_eq_true rfl) dX0_addWire_48

def g1_X0_removeWire (c : Nat → Nat → Int32) (t u : Nat)  : Nat → Nat → (Nat → Nat → Int32) → (Nat → (Nat → Nat → Int32) → Int32 × (Nat → Nat → Int32)) → Int32 × (Nat → Nat → Int32)
  | 0, i, c1, K => K i c1
  | n + 1, i, c1, K => g1_X0_removeWire c t u n (i + 1) (zup (zup c1 (12 + t) (i - 1) (c1 (12 + t) i)) (23 + t) (i - 1) (c1 (23 + t) i)) K
def m_X0_removeWire (c : Nat → Nat → Int32) (t u : Nat) : Int32 × (Nat → Nat → Int32) := g1_X0_removeWire c t u (zn (c 10 t) - (u + 1)) (u + 1) c (fun i c1 => (c (23 + t) u, (m_X0_arrange (zup c1 10 t ((c 10 t) - 1)))))
set_option maxRecDepth 100000 in
set_option maxHeartbeats 4000000 in
theorem k_X0_removeWire (l : Launch) (E : zE) (b : Nat) (c : Nat → Nat → Int32) (w : Nat → Int64) (en : Nat → Nat) (ea : Nat → Nat → Int32) {t : Nat} (ht : t < 10) {u : Nat} (hu : u < zn (c 10 t)) (hg : zG c) : zM l yX0_removeWire (.code yX0_removeWire cX0_removeWire 5 (some .int) :: zAll) (zRm 4 0 0) E b [.ref (b + 1), .int (nI t), .int (nI u)] (zH E b c w en ea) (fun v9 (_ : Unit) => v9 = some (.int (m_X0_removeWire c t u).1) ∧ zfr 10 34 10 10 c (m_X0_removeWire c t u).2 ∧ zG (m_X0_removeWire c t u).2) (fun _ => zH E b ((m_X0_removeWire c t u).2) w en ea) 0 0 := by
  refine zM_of "ToneGraph$Board" (by decide) rfl rfl (Nat.le_of_ble_eq_true rfl) (L0 := [(0, .ref (b + 1)), (1, .int (nI t)), (2, .int (nI u))]) rfl ?_
  intro p e s m args below meth c9 B hr hname
  have hN : zn (c 10 t) ≤ 4 := hg 10 t
  refine zv_aload_n (pc := 0) B 0 rfl dX0_removeWire_0 ?_
  refine zv_get (pc := 1) (v := .ref (b + 22)) B (zat (by decide) (z1 _ _ _)) cl0 inX0 12 (by decide) wf_X0_45 rfl dX0_removeWire_1 ?_
  refine zv_iload_n (pc := 4) B 1 rfl dX0_removeWire_4 ?_
  refine zv_rald (pc := 5) (jj := t) (q1 := b + (23 + t)) B (zat (by decide) (z22 _ _ _)) rfl ht (by decide) (if_pos ht) dX0_removeWire_5 ?_
  refine zv_iload_n (pc := 6) B 2 rfl dX0_removeWire_6 ?_
  refine zv_iald (pc := 7) (jj := u) B (zat (by have h9 : t < 10 := ht; omega) (zshr ht _ _ _)) rfl (by omega) (by decide) dX0_removeWire_7 ?_
  refine zv_istore_n (pc := 8) (L' := [(3, .int (c (23 + t) u)), (0, .ref (b + 1)), (1, .int (nI t)), (2, .int (nI u))]) B (by decide) rfl dX0_removeWire_8 ?_
  refine zv_iload_n (pc := 9) B 3 rfl dX0_removeWire_9 ?_
  refine zv_iconst (pc := 10) (v := 1) B rfl dX0_removeWire_10 ?_
  refine zv_iadd (pc := 11) B dX0_removeWire_11 ?_
  refine zv_topi (y := nI (u + 1)) (nI_add u 1) ?_
  refine zv_istore (pc := 12) (L' := [(4, .int (nI (u + 1))), (3, .int (c (23 + t) u)), (0, .ref (b + 1)), (1, .int (nI t)), (2, .int (nI u))]) B (by decide) rfl dX0_removeWire_12 ?_
  have loop1 : ∀ (K : Nat → (Nat → Nat → Int32) → Int32 × (Nat → Nat → Int32)) (n : Nat) (i : Nat) (c1 : Nat → Nat → Int32), zfr 12 33 12 12 c c1 → zG c1 → 1 ≤ i → i + n = zn (c 10 t) → g1_X0_removeWire c t u n i c1 K = m_X0_removeWire c t u → (∀ (i : Nat) (c1 : Nat → Nat → Int32), zfr 12 33 12 12 c c1 → zG c1 → 1 ≤ i → i ≤ zn (c 10 t) → K i c1 = m_X0_removeWire c t u → zV p l e (zRm 4 0 0) s m args below meth c9 (MQ below (zQ b (fun v9 (_ : Unit) => v9 = some (.int (m_X0_removeWire c t u).1) ∧ zfr 10 34 10 10 c (m_X0_removeWire c t u).2 ∧ zG (m_X0_removeWire c t u).2) (fun _ => zH E b ((m_X0_removeWire c t u).2) w en ea)) args s 0 0 (zA b)) 5 b (zH E b c1 w en ea) 71 [(0, .ref (b + 1)), (1, .int (nI t)), (2, .int (nI u)), (3, .int (c (23 + t) u)), (4, .int (nI i))] [] 0 0) → zV p l e (zRm 4 0 0) s m args below meth c9 (MQ below (zQ b (fun v9 (_ : Unit) => v9 = some (.int (m_X0_removeWire c t u).1) ∧ zfr 10 34 10 10 c (m_X0_removeWire c t u).2 ∧ zG (m_X0_removeWire c t u).2) (fun _ => zH E b ((m_X0_removeWire c t u).2) w en ea)) args s 0 0 (zA b)) 5 b (zH E b c1 w en ea) 14 [(0, .ref (b + 1)), (1, .int (nI t)), (2, .int (nI u)), (3, .int (c (23 + t) u)), (4, .int (nI i))] [] 0 0 := by
    intro K n
    induction n with
    | zero =>
      intro i c1 hF1 hg1 hi1 hi hE901 hK
      refine zv_iload (pc := 14) B 4 rfl dX0_removeWire_14 ?_
      refine zv_aload_n (pc := 16) B 0 rfl dX0_removeWire_16 ?_
      refine zv_get (pc := 17) (v := .ref (b + 10)) B (zat (by decide) (z1 _ _ _)) cl0 inX0 10 (by decide) wf_X0_37 rfl dX0_removeWire_17 ?_
      refine zv_iload_n (pc := 20) B 1 rfl dX0_removeWire_20 ?_
      refine zv_iald (pc := 21) (jj := t) B (zat (by decide) (z10 _ _ _)) rfl ht (by decide) dX0_removeWire_21 ?_
      refine zv_topi (y := c 10 t) (by rw [hF1 10 (by omega)]) ?_
      refine zv_icmp_ge (pc := 22) (tgt := 71) B dX0_removeWire_22 rfl (fun _ => ?_) (fun h9 => absurd ((z_le (a := (zn (c 10 t))) (b := i) (zn_eq (c 10 t)) rfl (by have h8 := (show zn _ ≤ 4 from hg 10 t); omega) (by have h8 := (show zn _ ≤ 4 from hg 10 t); omega)).mpr (by have h8 := (show zn _ ≤ 4 from hg 10 t); omega)) h9)
      exact hK i c1 hF1 hg1 (by omega) (by omega) (Eq.trans (by rw [g1_X0_removeWire]) hE901)
    | succ n ih =>
      intro i c1 hF1 hg1 hi1 hi hE901 hK
      refine zv_iload (pc := 14) B 4 rfl dX0_removeWire_14 ?_
      refine zv_aload_n (pc := 16) B 0 rfl dX0_removeWire_16 ?_
      refine zv_get (pc := 17) (v := .ref (b + 10)) B (zat (by decide) (z1 _ _ _)) cl0 inX0 10 (by decide) wf_X0_37 rfl dX0_removeWire_17 ?_
      refine zv_iload_n (pc := 20) B 1 rfl dX0_removeWire_20 ?_
      refine zv_iald (pc := 21) (jj := t) B (zat (by decide) (z10 _ _ _)) rfl ht (by decide) dX0_removeWire_21 ?_
      refine zv_topi (y := c 10 t) (by rw [hF1 10 (by omega)]) ?_
      refine zv_icmp_ge (pc := 22) (tgt := 71) B dX0_removeWire_22 rfl (fun h9 => absurd h9 (fun q9 => absurd ((z_le (a := (zn (c 10 t))) (b := i) (zn_eq (c 10 t)) rfl (by have h8 := (show zn _ ≤ 4 from hg 10 t); omega) (by have h8 := (show zn _ ≤ 4 from hg 10 t); omega)).mp q9) (by have h8 := (show zn _ ≤ 4 from hg 10 t); omega))) (fun _ => ?_)
      refine zv_aload_n (pc := 25) B 0 rfl dX0_removeWire_25 ?_
      refine zv_get (pc := 26) (v := .ref (b + 11)) B (zat (by decide) (z1 _ _ _)) cl0 inX0 11 (by decide) wf_X0_42 rfl dX0_removeWire_26 ?_
      refine zv_iload_n (pc := 29) B 1 rfl dX0_removeWire_29 ?_
      refine zv_rald (pc := 30) (jj := t) (q1 := b + (12 + t)) B (zat (by decide) (z11 _ _ _)) rfl ht (by decide) (if_pos ht) dX0_removeWire_30 ?_
      refine zv_iload (pc := 31) B 4 rfl dX0_removeWire_31 ?_
      refine zv_iconst (pc := 33) (v := 1) B rfl dX0_removeWire_33 ?_
      refine zv_isub (pc := 34) B dX0_removeWire_34 ?_
      refine zv_topi (y := nI (i - 1)) (nI_pre hi1) ?_
      refine zv_aload_n (pc := 35) B 0 rfl dX0_removeWire_35 ?_
      refine zv_get (pc := 36) (v := .ref (b + 11)) B (zat (by decide) (z1 _ _ _)) cl0 inX0 11 (by decide) wf_X0_42 rfl dX0_removeWire_36 ?_
      refine zv_iload_n (pc := 39) B 1 rfl dX0_removeWire_39 ?_
      refine zv_rald (pc := 40) (jj := t) (q1 := b + (12 + t)) B (zat (by decide) (z11 _ _ _)) rfl ht (by decide) (if_pos ht) dX0_removeWire_40 ?_
      refine zv_iload (pc := 41) B 4 rfl dX0_removeWire_41 ?_
      refine zv_iald (pc := 43) (jj := i) B (zat (by have h9 : t < 10 := ht; omega) (zsrc ht _ _ _)) rfl (by omega) (by decide) dX0_removeWire_43 ?_
      refine zs_iast (pc := 44) (jj := (i - 1)) B zid (by have h9 : t < 10 := ht; omega) (zsrc_e ht) (fun x w e => zsrc ht x w e) rfl (by omega) (by decide) dX0_removeWire_44 ?_
      refine zv_aload_n (pc := 45) B 0 rfl dX0_removeWire_45 ?_
      refine zv_get (pc := 46) (v := .ref (b + 22)) B (zat (by decide) (z1 _ _ _)) cl0 inX0 12 (by decide) wf_X0_45 rfl dX0_removeWire_46 ?_
      refine zv_iload_n (pc := 49) B 1 rfl dX0_removeWire_49 ?_
      refine zv_rald (pc := 50) (jj := t) (q1 := b + (23 + t)) B (zat (by decide) (z22 _ _ _)) rfl ht (by decide) (if_pos ht) dX0_removeWire_50 ?_
      refine zv_iload (pc := 51) B 4 rfl dX0_removeWire_51 ?_
      refine zv_iconst (pc := 53) (v := 1) B rfl dX0_removeWire_53 ?_
      refine zv_isub (pc := 54) B dX0_removeWire_54 ?_
      refine zv_topi (y := nI (i - 1)) (nI_pre hi1) ?_
      refine zv_aload_n (pc := 55) B 0 rfl dX0_removeWire_55 ?_
      refine zv_get (pc := 56) (v := .ref (b + 22)) B (zat (by decide) (z1 _ _ _)) cl0 inX0 12 (by decide) wf_X0_45 rfl dX0_removeWire_56 ?_
      refine zv_iload_n (pc := 59) B 1 rfl dX0_removeWire_59 ?_
      refine zv_rald (pc := 60) (jj := t) (q1 := b + (23 + t)) B (zat (by decide) (z22 _ _ _)) rfl ht (by decide) (if_pos ht) dX0_removeWire_60 ?_
      refine zv_iload (pc := 61) B 4 rfl dX0_removeWire_61 ?_
      refine zv_iald (pc := 63) (jj := i) B (zat (by have h9 : t < 10 := ht; omega) (zshr ht _ _ _)) rfl (by omega) (by decide) dX0_removeWire_63 ?_
      refine zv_topi (y := c1 (23 + t) i) (by rw [zup_i (i := 12 + t) (i' := 23 + t) _ _ _ (by have h8 : t < 10 := ht; have h8 : t < 10 := ht; omega)]) ?_
      refine zs_iast (pc := 64) (jj := (i - 1)) B zid (by have h9 : t < 10 := ht; omega) (zshr_e ht) (fun x w e => zshr ht x w e) rfl (by omega) (by decide) dX0_removeWire_64 ?_
      refine zv_iinc (pc := 65) (v := nI (i + 1)) (L' := [(4, .int (nI (i + 1))), (0, .ref (b + 1)), (1, .int (nI t)), (2, .int (nI u)), (3, .int (c (23 + t) u))]) B 4 rfl (nI_1 _) (by decide) rfl dX0_removeWire_65 ?_
      refine zv_goto (pc := 68) (tgt := 14) B rfl dX0_removeWire_68 ?_
      refine zv_loc (L' := [(0, .ref (b + 1)), (1, .int (nI t)), (2, .int (nI u)), (3, .int (c (23 + t) u)), (4, .int (nI (i + 1)))]) [1, 2, 3, 4, 0] rfl ?_
      exact ih (i + 1) (zup (zup c1 (12 + t) (i - 1) (c1 (12 + t) i)) (23 + t) (i - 1) (c1 (23 + t) i)) (zfr.up (zfr.up hF1 (by have h8 : t < 10 := ht; omega)) (by have h8 : t < 10 := ht; omega)) (zG.free (zG.up hg1 (by rw [zBd_src ht]; exact (zG.src hg1 ht i))) (by have h8 : t < 10 := ht; unfold zfree; omega)) (by omega) (by omega) (Eq.trans (by rw [g1_X0_removeWire]) hE901) hK
  refine zv_loc (L' := [(0, .ref (b + 1)), (1, .int (nI t)), (2, .int (nI u)), (3, .int (c (23 + t) u)), (4, .int (nI (u + 1)))]) [2, 3, 4, 1, 0] rfl ?_
  refine loop1 (fun i c1 => (c (23 + t) u, (m_X0_arrange (zup c1 10 t ((c 10 t) - 1))))) (zn (c 10 t) - (u + 1)) (u + 1) c zfr.refl hg (by omega) (by omega) (by unfold m_X0_removeWire; rfl) ?_
  intro i c1 hF1 hg1 hi1 hx
  intro (hE951 : (c (23 + t) u, (m_X0_arrange (zup c1 10 t ((c 10 t) - 1)))) = m_X0_removeWire c t u)
  refine zv_aload_n (pc := 71) B 0 rfl dX0_removeWire_71 ?_
  refine zv_get (pc := 72) (v := .ref (b + 10)) B (zat (by decide) (z1 _ _ _)) cl0 inX0 10 (by decide) wf_X0_37 rfl dX0_removeWire_72 ?_
  refine zv_iload_n (pc := 75) B 1 rfl dX0_removeWire_75 ?_
  refine zv_dup2 (pc := 76) B rfl rfl dX0_removeWire_76 ?_
  refine zv_iald (pc := 77) (jj := t) B (zat (by decide) (z10 _ _ _)) rfl ht (by decide) dX0_removeWire_77 ?_
  refine zv_topi (y := c 10 t) (by rw [hF1 10 (by omega)]) ?_
  refine zv_iconst (pc := 78) (v := 1) B rfl dX0_removeWire_78 ?_
  refine zv_isub (pc := 79) B dX0_removeWire_79 ?_
  refine zs_iast (pc := 80) (jj := t) B zid (by decide) rfl (fun x w e => z10 x w e) rfl ht (by decide) dX0_removeWire_80 ?_
  refine zv_aload_n (pc := 81) B 0 rfl dX0_removeWire_81 ?_
  refine zv_callV (pc := 82) (As := []) (rest := []) B (k_X0_arrange l E b _ _ _ _  (zG.up hg1 (show zn _ ≤ 4 from (zn_dec hN (by omega))))) (zcwV 0 3 B wm_X0_55 wi_X0_arrange wv_X0_arrange wn_X0 wcode_X0_arrange rfl (by decide +kernel) ⟨(Nat.le_of_ble_eq_true rfl), (Nat.le_of_ble_eq_true rfl)⟩) rfl (zrecv B (zat (by decide) (z1 _ _ _)) cl0) zid rfl (Nat.le_of_ble_eq_true rfl) dX0_removeWire_82 ⟨(Nat.le_of_ble_eq_true rfl), (Nat.le_of_ble_eq_true rfl)⟩ (fun v9 u9 hv9 => ?_)
  obtain ⟨rfl, hF2003, hg2003⟩ := hv9
  refine zv_st (st' := []) rfl ?_
  refine zv_iload_n (pc := 85) B 3 rfl dX0_removeWire_85 ?_
  have hE4 : (c (23 + t) u, (m_X0_arrange (zup c1 10 t ((c 10 t) - 1)))) = m_X0_removeWire c t u := hE951
  exact zv_iret (pc := 86) B (c (23 + t) u) hr (fun H hP => ⟨(), ⟨(congrArg (fun z => some (Value.int z.1)) hE4), Eq.subst (motive := fun z => zfr 10 34 10 10 c z.2) hE4 (zfr.call (zfr.up (zfr.call zfr.refl hF1 (by omega)) (by omega)) hF2003 (by omega)), Eq.subst (motive := fun z => zG z.2) hE4 hg2003⟩, Eq.subst (motive := fun z => zH E b z.2 w en ea H) hE4 hP⟩) (Nat.le_of_ble_eq_true rfl) (Nat.le_of_ble_eq_true rfl) dX0_removeWire_86

def g1_X0_shortestDelay (c : Nat → Nat → Int32)  : Nat → Nat → Int32 → (Nat → Int32 → Int32) → Int32
  | 0, i, x, K => K i x
  | n + 1, i, x, K => if (c 2 i) = 100 then (g1_X0_shortestDelay c n (i + 1) (zmin x (c 4 i)) K) else (g1_X0_shortestDelay c n (i + 1) x K)
def m_X0_shortestDelay (c : Nat → Nat → Int32) : Int32 := g1_X0_shortestDelay c (zn (c 1 0)) 0 64 (fun i x => x)
set_option maxRecDepth 100000 in
set_option maxHeartbeats 4000000 in
theorem k_X0_shortestDelay (l : Launch) (E : zE) (b : Nat) (c : Nat → Nat → Int32) (w : Nat → Int64) (en : Nat → Nat) (ea : Nat → Nat → Int32)  (hg : zG c) : zM l yX0_shortestDelay (.code yX0_shortestDelay cX0_shortestDelay 3 (some .int) :: zAll) (zRm 1 0 0) E b [.ref (b + 1)] (zH E b c w en ea) (fun v9 (_ : Unit) => v9 = some (.int (m_X0_shortestDelay c))) (fun _ => zH E b c w en ea) 0 0 := by
  refine zM_of "ToneGraph$Board" (by decide) rfl rfl (Nat.le_of_ble_eq_true rfl) (L0 := [(0, .ref (b + 1))]) rfl ?_
  intro p e s m args below meth c9 B hr hname
  have hcn : zn (c 1 0) ≤ 10 := hg 1 0
  refine zv_bipush (pc := 0) (v := 64) B rfl dX0_shortestDelay_0 ?_
  refine zv_istore_n (pc := 2) (L' := [(1, .int 64), (0, .ref (b + 1))]) B (by decide) rfl dX0_shortestDelay_2 ?_
  refine zv_iconst (pc := 3) (v := 0) B rfl dX0_shortestDelay_3 ?_
  refine zv_istore_n (pc := 4) (L' := [(2, .int 0), (1, .int 64), (0, .ref (b + 1))]) B (by decide) rfl dX0_shortestDelay_4 ?_
  have loop1 : ∀ (K : Nat → Int32 → Int32) (n : Nat) (i : Nat) (x : Int32), i + n = zn (c 1 0) → g1_X0_shortestDelay c n i x K = m_X0_shortestDelay c → (∀ (i : Nat) (x : Int32), i ≤ zn (c 1 0) → K i x = m_X0_shortestDelay c → zV p l e (zRm 1 0 0) s m args below meth c9 (MQ below (zQ b (fun v9 (_ : Unit) => v9 = some (.int (m_X0_shortestDelay c))) (fun _ => zH E b c w en ea)) args s 0 0 (zA b)) 3 b (zH E b c w en ea) 41 [(0, .ref (b + 1)), (2, .int (nI i)), (1, .int x)] [] 0 0) → zV p l e (zRm 1 0 0) s m args below meth c9 (MQ below (zQ b (fun v9 (_ : Unit) => v9 = some (.int (m_X0_shortestDelay c))) (fun _ => zH E b c w en ea)) args s 0 0 (zA b)) 3 b (zH E b c w en ea) 5 [(0, .ref (b + 1)), (2, .int (nI i)), (1, .int x)] [] 0 0 := by
    intro K n
    induction n with
    | zero =>
      intro i x hi hE901 hK
      refine zv_iload_n (pc := 5) B 1 rfl dX0_shortestDelay_5 ?_
      refine zv_aload_n (pc := 6) B 0 rfl dX0_shortestDelay_6 ?_
      refine zv_get (pc := 7) (v := .int (c 1 0)) B (zat (by decide) (z1 _ _ _)) cl0 inX0 0 (by decide) wf_X0_51 rfl dX0_shortestDelay_7 ?_
      refine zv_icmp_ge (pc := 10) (tgt := 41) B dX0_shortestDelay_10 rfl (fun _ => ?_) (fun h9 => absurd ((z_le (a := (zn (c 1 0))) (b := i) (zn_eq (c 1 0)) rfl (by have h8 := (show zn _ ≤ 10 from hg 1 0); omega) (by have h8 := (show zn _ ≤ 10 from hg 1 0); omega)).mpr (by have h8 := (show zn _ ≤ 10 from hg 1 0); omega)) h9)
      exact hK i x  (by omega) (Eq.trans (by rw [g1_X0_shortestDelay]) hE901)
    | succ n ih =>
      intro i x hi hE901 hK
      refine zv_iload_n (pc := 5) B 1 rfl dX0_shortestDelay_5 ?_
      refine zv_aload_n (pc := 6) B 0 rfl dX0_shortestDelay_6 ?_
      refine zv_get (pc := 7) (v := .int (c 1 0)) B (zat (by decide) (z1 _ _ _)) cl0 inX0 0 (by decide) wf_X0_51 rfl dX0_shortestDelay_7 ?_
      refine zv_icmp_ge (pc := 10) (tgt := 41) B dX0_shortestDelay_10 rfl (fun h9 => absurd h9 (fun q9 => absurd ((z_le (a := (zn (c 1 0))) (b := i) (zn_eq (c 1 0)) rfl (by have h8 := (show zn _ ≤ 10 from hg 1 0); omega) (by have h8 := (show zn _ ≤ 10 from hg 1 0); omega)).mp q9) (by have h8 := (show zn _ ≤ 10 from hg 1 0); omega))) (fun _ => ?_)
      refine zv_aload_n (pc := 13) B 0 rfl dX0_shortestDelay_13 ?_
      refine zv_get (pc := 14) (v := .ref (b + 2)) B (zat (by decide) (z1 _ _ _)) cl0 inX0 2 (by decide) wf_X0_9 rfl dX0_shortestDelay_14 ?_
      refine zv_iload_n (pc := 17) B 1 rfl dX0_shortestDelay_17 ?_
      refine zv_cald (pc := 18) (jj := i) B (zat (by decide) (z2 _ _ _)) rfl (by omega) (by decide) dX0_shortestDelay_18 ?_
      refine zv_bipush (pc := 19) (v := 100) B rfl dX0_shortestDelay_19 ?_
      refine zv_icmp_ne (pc := 21) (tgt := 35) B dX0_shortestDelay_21 rfl (fun h3 => ?_) (fun h3 => ?_)
      · refine zv_iinc (pc := 35) (v := nI (i + 1)) (L' := [(2, .int (nI (i + 1))), (0, .ref (b + 1)), (1, .int x)]) B 1 rfl (nI_1 _) (by decide) rfl dX0_shortestDelay_35 ?_
        refine zv_goto (pc := 38) (tgt := 5) B rfl dX0_shortestDelay_38 ?_
        refine zv_loc (L' := [(0, .ref (b + 1)), (2, .int (nI (i + 1))), (1, .int x)]) [1, 0, 2] rfl ?_
        exact ih (i + 1) x  (by omega) (Eq.trans (by rw [g1_X0_shortestDelay, if_neg h3]) hE901) hK
      · refine zv_iload_n (pc := 24) B 2 rfl dX0_shortestDelay_24 ?_
        refine zv_aload_n (pc := 25) B 0 rfl dX0_shortestDelay_25 ?_
        refine zv_get (pc := 26) (v := .ref (b + 4)) B (zat (by decide) (z1 _ _ _)) cl0 inX0 4 (by decide) wf_X0_19 rfl dX0_shortestDelay_26 ?_
        refine zv_iload_n (pc := 29) B 1 rfl dX0_shortestDelay_29 ?_
        refine zv_iald (pc := 30) (jj := i) B (zat (by decide) (z4 _ _ _)) rfl (by omega) (by decide) dX0_shortestDelay_30 ?_
        refine zv_mmin (pc := 31) B wm_X0_69 ws_Math_min wn_Math wcode_Math_min (Nat.le_of_ble_eq_true rfl) (Nat.le_of_ble_eq_true rfl) (Nat.le_of_ble_eq_true rfl) (Nat.le_of_ble_eq_true rfl) dX0_shortestDelay_31 ?_
        refine zv_istore_n (pc := 34) (L' := [(1, .int (zmin x (c 4 i))), (0, .ref (b + 1)), (2, .int (nI i))]) B (by decide) rfl dX0_shortestDelay_34 ?_
        refine zv_iinc (pc := 35) (v := nI (i + 1)) (L' := [(2, .int (nI (i + 1))), (1, .int (zmin x (c 4 i))), (0, .ref (b + 1))]) B 2 rfl (nI_1 _) (by decide) rfl dX0_shortestDelay_35 ?_
        refine zv_goto (pc := 38) (tgt := 5) B rfl dX0_shortestDelay_38 ?_
        refine zv_loc (L' := [(0, .ref (b + 1)), (2, .int (nI (i + 1))), (1, .int (zmin x (c 4 i)))]) [2, 0, 1] rfl ?_
        exact ih (i + 1) (zmin x (c 4 i))  (by omega) (Eq.trans (by rw [g1_X0_shortestDelay, if_pos h3]) hE901) hK
  refine zv_loc (L' := [(0, .ref (b + 1)), (2, .int 0), (1, .int 64)]) [2, 0, 1] rfl ?_
  refine loop1 (fun i x => x) (zn (c 1 0)) 0 64  (by omega) (by unfold m_X0_shortestDelay; rfl) ?_
  intro i x hx
  intro (hE951 : x = m_X0_shortestDelay c)
  refine zv_iload_n (pc := 41) B 2 rfl dX0_shortestDelay_41 ?_
  have hE4 : x = m_X0_shortestDelay c := hE951
  exact zv_iret (pc := 42) B (x) hr (fun H hP => ⟨(), (congrArg (fun z => some (Value.int z)) hE4), hP⟩) (Nat.le_of_ble_eq_true rfl) (Nat.le_of_ble_eq_true rfl) dX0_shortestDelay_42

def g1_X0_isInOrder (c : Nat → Nat → Int32)  : Nat → Nat → Int32 → (Nat → Int32 → Int32) → Int32
  | 0, i, x, K => K i x
  | n + 1, i, x, K => if (c 2 (zn (c 33 i))) = 100 then (g1_X0_isInOrder c n (i + 1) (x ||| (1 <<< ((c 33 i) &&& 31))) K) else (if (m_X0_hasWireFrom c (zn (c 33 i)) (x ^^^ (-1))) = 0 then (g1_X0_isInOrder c n (i + 1) (x ||| (1 <<< ((c 33 i) &&& 31))) K) else 0)
def m_X0_isInOrder (c : Nat → Nat → Int32) : Int32 := g1_X0_isInOrder c (zn (c 1 0)) 0 0 (fun i x => 1)
set_option maxRecDepth 100000 in
set_option maxHeartbeats 4000000 in
theorem k_X0_isInOrder (l : Launch) (E : zE) (b : Nat) (c : Nat → Nat → Int32) (w : Nat → Int64) (en : Nat → Nat) (ea : Nat → Nat → Int32)  (hg : zG c) : zM l yX0_isInOrder (.code yX0_isInOrder cX0_isInOrder 4 (some .boolean) :: zAll) (zRm 2 0 0) E b [.ref (b + 1)] (zH E b c w en ea) (fun v9 (_ : Unit) => v9 = some (.int (m_X0_isInOrder c))) (fun _ => zH E b c w en ea) 0 0 := by
  refine zM_of "ToneGraph$Board" (by decide) rfl rfl (Nat.le_of_ble_eq_true rfl) (L0 := [(0, .ref (b + 1))]) rfl ?_
  intro p e s m args below meth c9 B hr hname
  have hcn : zn (c 1 0) ≤ 10 := hg 1 0
  refine zv_iconst (pc := 0) (v := 0) B rfl dX0_isInOrder_0 ?_
  refine zv_istore_n (pc := 1) (L' := [(1, .int 0), (0, .ref (b + 1))]) B (by decide) rfl dX0_isInOrder_1 ?_
  refine zv_iconst (pc := 2) (v := 0) B rfl dX0_isInOrder_2 ?_
  refine zv_istore_n (pc := 3) (L' := [(2, .int 0), (1, .int 0), (0, .ref (b + 1))]) B (by decide) rfl dX0_isInOrder_3 ?_
  have loop1 : ∀ (K : Nat → Int32 → Int32) (n : Nat) (i : Nat) (x : Int32), i + n = zn (c 1 0) → g1_X0_isInOrder c n i x K = m_X0_isInOrder c → (∀ (i : Nat) (x : Int32), i ≤ zn (c 1 0) → K i x = m_X0_isInOrder c → zV p l e (zRm 2 0 0) s m args below meth c9 (MQ below (zQ b (fun v9 (_ : Unit) => v9 = some (.int (m_X0_isInOrder c))) (fun _ => zH E b c w en ea)) args s 0 0 (zA b)) 4 b (zH E b c w en ea) 55 [(0, .ref (b + 1)), (2, .int (nI i)), (1, .int x)] [] 0 0) → zV p l e (zRm 2 0 0) s m args below meth c9 (MQ below (zQ b (fun v9 (_ : Unit) => v9 = some (.int (m_X0_isInOrder c))) (fun _ => zH E b c w en ea)) args s 0 0 (zA b)) 4 b (zH E b c w en ea) 4 [(0, .ref (b + 1)), (2, .int (nI i)), (1, .int x)] [] 0 0 := by
    intro K n
    induction n with
    | zero =>
      intro i x hi hE901 hK
      refine zv_iload_n (pc := 4) B 1 rfl dX0_isInOrder_4 ?_
      refine zv_aload_n (pc := 5) B 0 rfl dX0_isInOrder_5 ?_
      refine zv_get (pc := 6) (v := .int (c 1 0)) B (zat (by decide) (z1 _ _ _)) cl0 inX0 0 (by decide) wf_X0_51 rfl dX0_isInOrder_6 ?_
      refine zv_icmp_ge (pc := 9) (tgt := 55) B dX0_isInOrder_9 rfl (fun _ => ?_) (fun h9 => absurd ((z_le (a := (zn (c 1 0))) (b := i) (zn_eq (c 1 0)) rfl (by have h8 := (show zn _ ≤ 10 from hg 1 0); omega) (by have h8 := (show zn _ ≤ 10 from hg 1 0); omega)).mpr (by have h8 := (show zn _ ≤ 10 from hg 1 0); omega)) h9)
      exact hK i x  (by omega) (Eq.trans (by rw [g1_X0_isInOrder]) hE901)
    | succ n ih =>
      intro i x hi hE901 hK
      refine zv_iload_n (pc := 4) B 1 rfl dX0_isInOrder_4 ?_
      refine zv_aload_n (pc := 5) B 0 rfl dX0_isInOrder_5 ?_
      refine zv_get (pc := 6) (v := .int (c 1 0)) B (zat (by decide) (z1 _ _ _)) cl0 inX0 0 (by decide) wf_X0_51 rfl dX0_isInOrder_6 ?_
      refine zv_icmp_ge (pc := 9) (tgt := 55) B dX0_isInOrder_9 rfl (fun h9 => absurd h9 (fun q9 => absurd ((z_le (a := (zn (c 1 0))) (b := i) (zn_eq (c 1 0)) rfl (by have h8 := (show zn _ ≤ 10 from hg 1 0); omega) (by have h8 := (show zn _ ≤ 10 from hg 1 0); omega)).mp q9) (by have h8 := (show zn _ ≤ 10 from hg 1 0); omega))) (fun _ => ?_)
      refine zv_aload_n (pc := 12) B 0 rfl dX0_isInOrder_12 ?_
      refine zv_get (pc := 13) (v := .ref (b + 33)) B (zat (by decide) (z1 _ _ _)) cl0 inX0 13 (by decide) wf_X0_48 rfl dX0_isInOrder_13 ?_
      refine zv_iload_n (pc := 16) B 1 rfl dX0_isInOrder_16 ?_
      refine zv_iald (pc := 17) (jj := i) B (zat (by decide) (z33 _ _ _)) rfl (by omega) (by decide) dX0_isInOrder_17 ?_
      refine zv_istore_n (pc := 18) (L' := [(3, .int (c 33 i)), (0, .ref (b + 1)), (2, .int (nI i)), (1, .int x)]) B (by decide) rfl dX0_isInOrder_18 ?_
      refine zv_aload_n (pc := 19) B 1 rfl dX0_isInOrder_19 ?_
      refine zv_get (pc := 20) (v := .ref (b + 2)) B (zat (by decide) (z1 _ _ _)) cl0 inX0 2 (by decide) wf_X0_9 rfl dX0_isInOrder_20 ?_
      refine zv_iload_n (pc := 23) B 0 rfl dX0_isInOrder_23 ?_
      refine zv_cald (pc := 24) (jj := (zn (c 33 i))) B (zat (by decide) (z2 _ _ _)) (zn_eq (c 33 i)) (by have h8 := (show zn _ ≤ 9 from hg 33 i); omega) (by decide) dX0_isInOrder_24 ?_
      refine zv_bipush (pc := 25) (v := 100) B rfl dX0_isInOrder_25 ?_
      refine zv_icmp_eq (pc := 27) (tgt := 43) B dX0_isInOrder_27 rfl (fun h3 => ?_) (fun h3 => ?_)
      · refine zv_iload_n (pc := 43) B 3 rfl dX0_isInOrder_43 ?_
        refine zv_iconst (pc := 44) (v := 1) B rfl dX0_isInOrder_44 ?_
        refine zv_iload_n (pc := 45) B 0 rfl dX0_isInOrder_45 ?_
        refine zv_ishl (pc := 46) B dX0_isInOrder_46 ?_
        refine zv_ior (pc := 47) B dX0_isInOrder_47 ?_
        refine zv_istore_n (pc := 48) (L' := [(1, .int (x ||| (1 <<< ((c 33 i) &&& 31)))), (3, .int (c 33 i)), (0, .ref (b + 1)), (2, .int (nI i))]) B (by decide) rfl dX0_isInOrder_48 ?_
        refine zv_iinc (pc := 49) (v := nI (i + 1)) (L' := [(2, .int (nI (i + 1))), (1, .int (x ||| (1 <<< ((c 33 i) &&& 31)))), (3, .int (c 33 i)), (0, .ref (b + 1))]) B 3 rfl (nI_1 _) (by decide) rfl dX0_isInOrder_49 ?_
        refine zv_goto (pc := 52) (tgt := 4) B rfl dX0_isInOrder_52 ?_
        refine zv_loc (L' := [(0, .ref (b + 1)), (2, .int (nI (i + 1))), (1, .int (x ||| (1 <<< ((c 33 i) &&& 31))))]) [3, 0, 1] rfl ?_
        exact ih (i + 1) (x ||| (1 <<< ((c 33 i) &&& 31)))  (by omega) (Eq.trans (by rw [g1_X0_isInOrder, if_pos h3]) hE901) hK
      · refine zv_aload_n (pc := 30) B 1 rfl dX0_isInOrder_30 ?_
        refine zv_iload_n (pc := 31) B 0 rfl dX0_isInOrder_31 ?_
        refine zv_iload_n (pc := 32) B 3 rfl dX0_isInOrder_32 ?_
        refine zv_iconst (pc := 33) (v := (-1)) B rfl dX0_isInOrder_33 ?_
        refine zv_ixor (pc := 34) B dX0_isInOrder_34 ?_
        refine zv_st (st' := [.int (x ^^^ (-1)), .int (nI (zn (c 33 i))), .ref (b + 1)]) (by rw [← zn_eq (c 33 i)]) ?_
        refine zv_callV (pc := 35) (As := [.int (nI (zn (c 33 i))), .int (x ^^^ (-1))]) (rest := []) B (k_X0_hasWireFrom l E b _ _ _ _  (by have h8 := (show zn _ ≤ 9 from hg 33 i); omega) (x ^^^ (-1)) hg) (zcwV 2 1 B wm_X0_58 wi_X0_hasWireFrom wv_X0_hasWireFrom wn_X0 wcode_X0_hasWireFrom rfl (by decide +kernel) ⟨(Nat.le_of_ble_eq_true rfl), (Nat.le_of_ble_eq_true rfl)⟩) rfl (zrecv B (zat (by decide) (z1 _ _ _)) cl0) zid rfl (Nat.le_of_ble_eq_true rfl) dX0_isInOrder_35 ⟨(Nat.le_of_ble_eq_true rfl), (Nat.le_of_ble_eq_true rfl)⟩ (fun v9 u9 hv9 => ?_)
        subst hv9
        refine zv_st (st' := [.int (m_X0_hasWireFrom c (zn (c 33 i)) (x ^^^ (-1)))]) rfl ?_
        refine zv_if_eq (pc := 38) (tgt := 43) B dX0_isInOrder_38 rfl (fun h4 => ?_) (fun h4 => ?_)
        · refine zv_iload_n (pc := 43) B 3 rfl dX0_isInOrder_43 ?_
          refine zv_iconst (pc := 44) (v := 1) B rfl dX0_isInOrder_44 ?_
          refine zv_iload_n (pc := 45) B 0 rfl dX0_isInOrder_45 ?_
          refine zv_ishl (pc := 46) B dX0_isInOrder_46 ?_
          refine zv_ior (pc := 47) B dX0_isInOrder_47 ?_
          refine zv_istore_n (pc := 48) (L' := [(1, .int (x ||| (1 <<< ((c 33 i) &&& 31)))), (3, .int (c 33 i)), (0, .ref (b + 1)), (2, .int (nI i))]) B (by decide) rfl dX0_isInOrder_48 ?_
          refine zv_iinc (pc := 49) (v := nI (i + 1)) (L' := [(2, .int (nI (i + 1))), (1, .int (x ||| (1 <<< ((c 33 i) &&& 31)))), (3, .int (c 33 i)), (0, .ref (b + 1))]) B 3 rfl (nI_1 _) (by decide) rfl dX0_isInOrder_49 ?_
          refine zv_goto (pc := 52) (tgt := 4) B rfl dX0_isInOrder_52 ?_
          refine zv_loc (L' := [(0, .ref (b + 1)), (2, .int (nI (i + 1))), (1, .int (x ||| (1 <<< ((c 33 i) &&& 31))))]) [3, 0, 1] rfl ?_
          exact ih (i + 1) (x ||| (1 <<< ((c 33 i) &&& 31)))  (by omega) (Eq.trans (by rw [g1_X0_isInOrder, if_neg h3, if_pos h4]) hE901) hK
        · refine zv_iconst (pc := 41) (v := 0) B rfl dX0_isInOrder_41 ?_
          have hE5 : 0 = m_X0_isInOrder c := (Eq.trans (by rw [g1_X0_isInOrder, if_neg h3, if_neg h4]) hE901)
          exact zv_zret (pc := 42) B (0) rfl hr (fun H hP => ⟨(), (congrArg (fun z => some (Value.int z)) hE5), hP⟩) (Nat.le_of_ble_eq_true rfl) (Nat.le_of_ble_eq_true rfl) dX0_isInOrder_42
  refine zv_loc (L' := [(0, .ref (b + 1)), (2, .int 0), (1, .int 0)]) [2, 0, 1] rfl ?_
  refine loop1 (fun i x => 1) (zn (c 1 0)) 0 0  (by omega) (by unfold m_X0_isInOrder; rfl) ?_
  intro i x hx
  intro (hE951 : 1 = m_X0_isInOrder c)
  refine zv_iconst (pc := 55) (v := 1) B rfl dX0_isInOrder_55 ?_
  have hE6 : 1 = m_X0_isInOrder c := hE951
  exact zv_zret (pc := 56) B (1) rfl hr (fun H hP => ⟨(), (congrArg (fun z => some (Value.int z)) hE6), hP⟩) (Nat.le_of_ble_eq_true rfl) (Nat.le_of_ble_eq_true rfl) dX0_isInOrder_56

def g2_X0_closesBareCircle (c : Nat → Nat → Int32) (u t : Nat)  : Nat → Nat → Int32 → (Nat → Int32 → Int32) → Int32
  | 0, i, y, K => K i y
  | n + 1, i, y, K => if (c 2 i) = 100 then (g2_X0_closesBareCircle c u t n (i + 1) y K) else (if (m_X0_hasWireFrom c i y) = 0 then (g2_X0_closesBareCircle c u t n (i + 1) y K) else (g2_X0_closesBareCircle c u t n (i + 1) (y ||| (1 <<< ((nI i) &&& 31))) K))
def g1_X0_closesBareCircle (c : Nat → Nat → Int32) (u t : Nat)  : Nat → Nat → Int32 → (Nat → Int32 → Int32) → Int32
  | 0, j, x, K => K j x
  | n + 1, j, x, K => g2_X0_closesBareCircle c u t (zn (c 1 0)) 0 x (fun i y => g1_X0_closesBareCircle c u t n (j + 1) y K)
def m_X0_closesBareCircle (c : Nat → Nat → Int32) (u t : Nat) : Int32 := if (c 2 u) = 100 then 0 else (if (c 2 t) = 100 then 0 else (g1_X0_closesBareCircle c u t (zn (c 1 0)) 0 (1 <<< ((nI t) &&& 31)) (fun j x => r_X0_isIn x (nI u))))
set_option maxRecDepth 100000 in
set_option maxHeartbeats 4000000 in
theorem k_X0_closesBareCircle (l : Launch) (E : zE) (b : Nat) (c : Nat → Nat → Int32) (w : Nat → Int64) (en : Nat → Nat) (ea : Nat → Nat → Int32) {u : Nat} (hu : u < 10) {t : Nat} (ht : t < 10) (hg : zG c) : zM l yX0_closesBareCircle (.code yX0_closesBareCircle cX0_closesBareCircle 6 (some .boolean) :: zAll) (zRm 2 0 0) E b [.ref (b + 1), .int (nI u), .int (nI t)] (zH E b c w en ea) (fun v9 (_ : Unit) => v9 = some (.int (m_X0_closesBareCircle c u t))) (fun _ => zH E b c w en ea) 0 0 := by
  refine zM_of "ToneGraph$Board" (by decide) rfl rfl (Nat.le_of_ble_eq_true rfl) (L0 := [(0, .ref (b + 1)), (1, .int (nI u)), (2, .int (nI t))]) rfl ?_
  intro p e s m args below meth c9 B hr hname
  have hcn : zn (c 1 0) ≤ 10 := hg 1 0
  refine zv_aload_n (pc := 0) B 0 rfl dX0_closesBareCircle_0 ?_
  refine zv_get (pc := 1) (v := .ref (b + 2)) B (zat (by decide) (z1 _ _ _)) cl0 inX0 2 (by decide) wf_X0_9 rfl dX0_closesBareCircle_1 ?_
  refine zv_iload_n (pc := 4) B 1 rfl dX0_closesBareCircle_4 ?_
  refine zv_cald (pc := 5) (jj := u) B (zat (by decide) (z2 _ _ _)) rfl hu (by decide) dX0_closesBareCircle_5 ?_
  refine zv_bipush (pc := 6) (v := 100) B rfl dX0_closesBareCircle_6 ?_
  refine zv_icmp_eq (pc := 8) (tgt := 22) B dX0_closesBareCircle_8 rfl (fun h1 => ?_) (fun h1 => ?_)
  · refine zv_iconst (pc := 22) (v := 0) B rfl dX0_closesBareCircle_22 ?_
    have hE2 : 0 = m_X0_closesBareCircle c u t := (by unfold m_X0_closesBareCircle; rw [if_pos h1])
    exact zv_zret (pc := 23) B (0) rfl hr (fun H hP => ⟨(), (congrArg (fun z => some (Value.int z)) hE2), hP⟩) (Nat.le_of_ble_eq_true rfl) (Nat.le_of_ble_eq_true rfl) dX0_closesBareCircle_23
  · refine zv_aload_n (pc := 11) B 0 rfl dX0_closesBareCircle_11 ?_
    refine zv_get (pc := 12) (v := .ref (b + 2)) B (zat (by decide) (z1 _ _ _)) cl0 inX0 2 (by decide) wf_X0_9 rfl dX0_closesBareCircle_12 ?_
    refine zv_iload_n (pc := 15) B 2 rfl dX0_closesBareCircle_15 ?_
    refine zv_cald (pc := 16) (jj := t) B (zat (by decide) (z2 _ _ _)) rfl ht (by decide) dX0_closesBareCircle_16 ?_
    refine zv_bipush (pc := 17) (v := 100) B rfl dX0_closesBareCircle_17 ?_
    refine zv_icmp_ne (pc := 19) (tgt := 24) B dX0_closesBareCircle_19 rfl (fun h3 => ?_) (fun h3 => ?_)
    · refine zv_iconst (pc := 24) (v := 1) B rfl dX0_closesBareCircle_24 ?_
      refine zv_iload_n (pc := 25) B 2 rfl dX0_closesBareCircle_25 ?_
      refine zv_ishl (pc := 26) B dX0_closesBareCircle_26 ?_
      refine zv_istore_n (pc := 27) (L' := [(3, .int (1 <<< ((nI t) &&& 31))), (0, .ref (b + 1)), (1, .int (nI u)), (2, .int (nI t))]) B (by decide) rfl dX0_closesBareCircle_27 ?_
      refine zv_iconst (pc := 28) (v := 0) B rfl dX0_closesBareCircle_28 ?_
      refine zv_istore (pc := 29) (L' := [(4, .int 0), (3, .int (1 <<< ((nI t) &&& 31))), (0, .ref (b + 1)), (1, .int (nI u)), (2, .int (nI t))]) B (by decide) rfl dX0_closesBareCircle_29 ?_
      have loop1 : ∀ (K : Nat → Int32 → Int32) (n : Nat) (j : Nat) (x : Int32), j + n = zn (c 1 0) → g1_X0_closesBareCircle c u t n j x K = m_X0_closesBareCircle c u t → (∀ (j : Nat) (x : Int32), j ≤ zn (c 1 0) → K j x = m_X0_closesBareCircle c u t → zV p l e (zRm 2 0 0) s m args below meth c9 (MQ below (zQ b (fun v9 (_ : Unit) => v9 = some (.int (m_X0_closesBareCircle c u t))) (fun _ => zH E b c w en ea)) args s 0 0 (zA b)) 6 b (zH E b c w en ea) 93 [(0, .ref (b + 1)), (1, .int (nI u)), (2, .int (nI t)), (4, .int (nI j)), (3, .int x)] [] 0 0) → zV p l e (zRm 2 0 0) s m args below meth c9 (MQ below (zQ b (fun v9 (_ : Unit) => v9 = some (.int (m_X0_closesBareCircle c u t))) (fun _ => zH E b c w en ea)) args s 0 0 (zA b)) 6 b (zH E b c w en ea) 31 [(0, .ref (b + 1)), (1, .int (nI u)), (2, .int (nI t)), (4, .int (nI j)), (3, .int x)] [] 0 0 := by
        intro K n
        induction n with
        | zero =>
          intro j x hi hE901 hK
          refine zv_iload (pc := 31) B 3 rfl dX0_closesBareCircle_31 ?_
          refine zv_aload_n (pc := 33) B 0 rfl dX0_closesBareCircle_33 ?_
          refine zv_get (pc := 34) (v := .int (c 1 0)) B (zat (by decide) (z1 _ _ _)) cl0 inX0 0 (by decide) wf_X0_51 rfl dX0_closesBareCircle_34 ?_
          refine zv_icmp_ge (pc := 37) (tgt := 93) B dX0_closesBareCircle_37 rfl (fun _ => ?_) (fun h9 => absurd ((z_le (a := (zn (c 1 0))) (b := j) (zn_eq (c 1 0)) rfl (by have h8 := (show zn _ ≤ 10 from hg 1 0); omega) (by have h8 := (show zn _ ≤ 10 from hg 1 0); omega)).mpr (by have h8 := (show zn _ ≤ 10 from hg 1 0); omega)) h9)
          exact hK j x  (by omega) (Eq.trans (by rw [g1_X0_closesBareCircle]) hE901)
        | succ n ih =>
          intro j x hi hE901 hK
          refine zv_iload (pc := 31) B 3 rfl dX0_closesBareCircle_31 ?_
          refine zv_aload_n (pc := 33) B 0 rfl dX0_closesBareCircle_33 ?_
          refine zv_get (pc := 34) (v := .int (c 1 0)) B (zat (by decide) (z1 _ _ _)) cl0 inX0 0 (by decide) wf_X0_51 rfl dX0_closesBareCircle_34 ?_
          refine zv_icmp_ge (pc := 37) (tgt := 93) B dX0_closesBareCircle_37 rfl (fun h9 => absurd h9 (fun q9 => absurd ((z_le (a := (zn (c 1 0))) (b := j) (zn_eq (c 1 0)) rfl (by have h8 := (show zn _ ≤ 10 from hg 1 0); omega) (by have h8 := (show zn _ ≤ 10 from hg 1 0); omega)).mp q9) (by have h8 := (show zn _ ≤ 10 from hg 1 0); omega))) (fun _ => ?_)
          refine zv_iconst (pc := 40) (v := 0) B rfl dX0_closesBareCircle_40 ?_
          refine zv_istore (pc := 41) (L' := [(5, .int 0), (0, .ref (b + 1)), (1, .int (nI u)), (2, .int (nI t)), (4, .int (nI j)), (3, .int x)]) B (by decide) rfl dX0_closesBareCircle_41 ?_
          have loop2 : ∀ (K : Nat → Int32 → Int32) (n : Nat) (i : Nat) (y : Int32), i + n = zn (c 1 0) → g2_X0_closesBareCircle c u t n i y K = m_X0_closesBareCircle c u t → (∀ (i : Nat) (y : Int32), i ≤ zn (c 1 0) → K i y = m_X0_closesBareCircle c u t → zV p l e (zRm 2 0 0) s m args below meth c9 (MQ below (zQ b (fun v9 (_ : Unit) => v9 = some (.int (m_X0_closesBareCircle c u t))) (fun _ => zH E b c w en ea)) args s 0 0 (zA b)) 6 b (zH E b c w en ea) 87 [(0, .ref (b + 1)), (1, .int (nI u)), (2, .int (nI t)), (4, .int (nI j)), (5, .int (nI i)), (3, .int y)] [] 0 0) → zV p l e (zRm 2 0 0) s m args below meth c9 (MQ below (zQ b (fun v9 (_ : Unit) => v9 = some (.int (m_X0_closesBareCircle c u t))) (fun _ => zH E b c w en ea)) args s 0 0 (zA b)) 6 b (zH E b c w en ea) 43 [(0, .ref (b + 1)), (1, .int (nI u)), (2, .int (nI t)), (4, .int (nI j)), (5, .int (nI i)), (3, .int y)] [] 0 0 := by
            intro K n
            induction n with
            | zero =>
              intro i y hi hE902 hK
              refine zv_iload (pc := 43) B 4 rfl dX0_closesBareCircle_43 ?_
              refine zv_aload_n (pc := 45) B 0 rfl dX0_closesBareCircle_45 ?_
              refine zv_get (pc := 46) (v := .int (c 1 0)) B (zat (by decide) (z1 _ _ _)) cl0 inX0 0 (by decide) wf_X0_51 rfl dX0_closesBareCircle_46 ?_
              refine zv_icmp_ge (pc := 49) (tgt := 87) B dX0_closesBareCircle_49 rfl (fun _ => ?_) (fun h9 => absurd ((z_le (a := (zn (c 1 0))) (b := i) (zn_eq (c 1 0)) rfl (by have h8 := (show zn _ ≤ 10 from hg 1 0); omega) (by have h8 := (show zn _ ≤ 10 from hg 1 0); omega)).mpr (by have h8 := (show zn _ ≤ 10 from hg 1 0); omega)) h9)
              exact hK i y  (by omega) (Eq.trans (by rw [g2_X0_closesBareCircle]) hE902)
            | succ n ih =>
              intro i y hi hE902 hK
              refine zv_iload (pc := 43) B 4 rfl dX0_closesBareCircle_43 ?_
              refine zv_aload_n (pc := 45) B 0 rfl dX0_closesBareCircle_45 ?_
              refine zv_get (pc := 46) (v := .int (c 1 0)) B (zat (by decide) (z1 _ _ _)) cl0 inX0 0 (by decide) wf_X0_51 rfl dX0_closesBareCircle_46 ?_
              refine zv_icmp_ge (pc := 49) (tgt := 87) B dX0_closesBareCircle_49 rfl (fun h9 => absurd h9 (fun q9 => absurd ((z_le (a := (zn (c 1 0))) (b := i) (zn_eq (c 1 0)) rfl (by have h8 := (show zn _ ≤ 10 from hg 1 0); omega) (by have h8 := (show zn _ ≤ 10 from hg 1 0); omega)).mp q9) (by have h8 := (show zn _ ≤ 10 from hg 1 0); omega))) (fun _ => ?_)
              refine zv_aload_n (pc := 52) B 0 rfl dX0_closesBareCircle_52 ?_
              refine zv_get (pc := 53) (v := .ref (b + 2)) B (zat (by decide) (z1 _ _ _)) cl0 inX0 2 (by decide) wf_X0_9 rfl dX0_closesBareCircle_53 ?_
              refine zv_iload (pc := 56) B 4 rfl dX0_closesBareCircle_56 ?_
              refine zv_cald (pc := 58) (jj := i) B (zat (by decide) (z2 _ _ _)) rfl (by omega) (by decide) dX0_closesBareCircle_58 ?_
              refine zv_bipush (pc := 59) (v := 100) B rfl dX0_closesBareCircle_59 ?_
              refine zv_icmp_eq (pc := 61) (tgt := 81) B dX0_closesBareCircle_61 rfl (fun h8 => ?_) (fun h8 => ?_)
              · refine zv_iinc (pc := 81) (v := nI (i + 1)) (L' := [(5, .int (nI (i + 1))), (0, .ref (b + 1)), (1, .int (nI u)), (2, .int (nI t)), (4, .int (nI j)), (3, .int y)]) B 4 rfl (nI_1 _) (by decide) rfl dX0_closesBareCircle_81 ?_
                refine zv_goto (pc := 84) (tgt := 43) B rfl dX0_closesBareCircle_84 ?_
                refine zv_loc (L' := [(0, .ref (b + 1)), (1, .int (nI u)), (2, .int (nI t)), (4, .int (nI j)), (5, .int (nI (i + 1))), (3, .int y)]) [1, 2, 3, 4, 0, 5] rfl ?_
                exact ih (i + 1) y  (by omega) (Eq.trans (by rw [g2_X0_closesBareCircle, if_pos h8]) hE902) hK
              · refine zv_aload_n (pc := 64) B 0 rfl dX0_closesBareCircle_64 ?_
                refine zv_iload (pc := 65) B 4 rfl dX0_closesBareCircle_65 ?_
                refine zv_iload_n (pc := 67) B 5 rfl dX0_closesBareCircle_67 ?_
                refine zv_callV (pc := 68) (As := [.int (nI i), .int y]) (rest := []) B (k_X0_hasWireFrom l E b _ _ _ _  (by omega) y hg) (zcwV 2 1 B wm_X0_58 wi_X0_hasWireFrom wv_X0_hasWireFrom wn_X0 wcode_X0_hasWireFrom rfl (by decide +kernel) ⟨(Nat.le_of_ble_eq_true rfl), (Nat.le_of_ble_eq_true rfl)⟩) rfl (zrecv B (zat (by decide) (z1 _ _ _)) cl0) zid rfl (Nat.le_of_ble_eq_true rfl) dX0_closesBareCircle_68 ⟨(Nat.le_of_ble_eq_true rfl), (Nat.le_of_ble_eq_true rfl)⟩ (fun v9 u9 hv9 => ?_)
                subst hv9
                refine zv_st (st' := [.int (m_X0_hasWireFrom c i y)]) rfl ?_
                refine zv_if_eq (pc := 71) (tgt := 81) B dX0_closesBareCircle_71 rfl (fun h9 => ?_) (fun h9 => ?_)
                · refine zv_iinc (pc := 81) (v := nI (i + 1)) (L' := [(5, .int (nI (i + 1))), (0, .ref (b + 1)), (1, .int (nI u)), (2, .int (nI t)), (4, .int (nI j)), (3, .int y)]) B 4 rfl (nI_1 _) (by decide) rfl dX0_closesBareCircle_81 ?_
                  refine zv_goto (pc := 84) (tgt := 43) B rfl dX0_closesBareCircle_84 ?_
                  refine zv_loc (L' := [(0, .ref (b + 1)), (1, .int (nI u)), (2, .int (nI t)), (4, .int (nI j)), (5, .int (nI (i + 1))), (3, .int y)]) [1, 2, 3, 4, 0, 5] rfl ?_
                  exact ih (i + 1) y  (by omega) (Eq.trans (by rw [g2_X0_closesBareCircle, if_neg h8, if_pos h9]) hE902) hK
                · refine zv_iload_n (pc := 74) B 5 rfl dX0_closesBareCircle_74 ?_
                  refine zv_iconst (pc := 75) (v := 1) B rfl dX0_closesBareCircle_75 ?_
                  refine zv_iload (pc := 76) B 4 rfl dX0_closesBareCircle_76 ?_
                  refine zv_ishl (pc := 78) B dX0_closesBareCircle_78 ?_
                  refine zv_ior (pc := 79) B dX0_closesBareCircle_79 ?_
                  refine zv_istore_n (pc := 80) (L' := [(3, .int (y ||| (1 <<< ((nI i) &&& 31)))), (0, .ref (b + 1)), (1, .int (nI u)), (2, .int (nI t)), (4, .int (nI j)), (5, .int (nI i))]) B (by decide) rfl dX0_closesBareCircle_80 ?_
                  refine zv_iinc (pc := 81) (v := nI (i + 1)) (L' := [(5, .int (nI (i + 1))), (3, .int (y ||| (1 <<< ((nI i) &&& 31)))), (0, .ref (b + 1)), (1, .int (nI u)), (2, .int (nI t)), (4, .int (nI j))]) B 5 rfl (nI_1 _) (by decide) rfl dX0_closesBareCircle_81 ?_
                  refine zv_goto (pc := 84) (tgt := 43) B rfl dX0_closesBareCircle_84 ?_
                  refine zv_loc (L' := [(0, .ref (b + 1)), (1, .int (nI u)), (2, .int (nI t)), (4, .int (nI j)), (5, .int (nI (i + 1))), (3, .int (y ||| (1 <<< ((nI i) &&& 31))))]) [2, 3, 4, 5, 0, 1] rfl ?_
                  exact ih (i + 1) (y ||| (1 <<< ((nI i) &&& 31)))  (by omega) (Eq.trans (by rw [g2_X0_closesBareCircle, if_neg h8, if_neg h9]) hE902) hK
          refine zv_loc (L' := [(0, .ref (b + 1)), (1, .int (nI u)), (2, .int (nI t)), (4, .int (nI j)), (5, .int 0), (3, .int x)]) [1, 2, 3, 4, 0, 5] rfl ?_
          refine loop2 (fun i y => g1_X0_closesBareCircle c u t n (j + 1) y K) (zn (c 1 0)) 0 x  (by omega) (Eq.trans (by rw [g1_X0_closesBareCircle]) hE901) ?_
          intro i y hx
          intro (hE952 : g1_X0_closesBareCircle c u t n (j + 1) y K = m_X0_closesBareCircle c u t)
          refine zv_iinc (pc := 87) (v := nI (j + 1)) (L' := [(4, .int (nI (j + 1))), (0, .ref (b + 1)), (1, .int (nI u)), (2, .int (nI t)), (5, .int (nI i)), (3, .int y)]) B 3 rfl (nI_1 _) (by decide) rfl dX0_closesBareCircle_87 ?_
          refine zv_goto (pc := 90) (tgt := 31) B rfl dX0_closesBareCircle_90 ?_
          refine zv_loc (L' := [(0, .ref (b + 1)), (1, .int (nI u)), (2, .int (nI t)), (4, .int (nI (j + 1))), (3, .int y)]) [1, 2, 3, 0, 5] rfl ?_
          exact ih (j + 1) y  (by omega) hE952 hK
      refine zv_loc (L' := [(0, .ref (b + 1)), (1, .int (nI u)), (2, .int (nI t)), (4, .int 0), (3, .int (1 <<< ((nI t) &&& 31)))]) [2, 3, 4, 0, 1] rfl ?_
      refine loop1 (fun j x => r_X0_isIn x (nI u)) (zn (c 1 0)) 0 (1 <<< ((nI t) &&& 31))  (by omega) (by unfold m_X0_closesBareCircle; rw [if_neg h1, if_neg h3]) ?_
      intro j x hx
      intro (hE951 : r_X0_isIn x (nI u) = m_X0_closesBareCircle c u t)
      refine zv_iload_n (pc := 93) B 4 rfl dX0_closesBareCircle_93 ?_
      refine zv_iload_n (pc := 94) B 1 rfl dX0_closesBareCircle_94 ?_
      refine zv_callS (pc := 95) (As := [.int x, .int (nI u)]) (rest := []) B (k_X0_isIn l E b x (nI u)) (zcwS 2 0 B wm_X0_62 ws_X0_isIn wn_X0 wcode_X0_isIn (by decide +kernel) ⟨(Nat.le_of_ble_eq_true rfl), (Nat.le_of_ble_eq_true rfl)⟩) rfl zid rfl (Nat.le_of_ble_eq_true rfl) dX0_closesBareCircle_95 ⟨(Nat.le_of_ble_eq_true rfl), (Nat.le_of_ble_eq_true rfl)⟩ (fun v9 u9 hv9 => ?_)
      subst hv9
      refine zv_st (st' := [.int (r_X0_isIn x (nI u))]) rfl ?_
      have hE10 : r_X0_isIn x (nI u) = m_X0_closesBareCircle c u t := hE951
      exact zv_zret (pc := 98) B (r_X0_isIn x (nI u)) (znar_b (isIn_le _ _)) hr (fun H hP => ⟨(), (congrArg (fun z => some (Value.int z)) hE10), hP⟩) (Nat.le_of_ble_eq_true rfl) (Nat.le_of_ble_eq_true rfl) dX0_closesBareCircle_98
    · refine zv_iconst (pc := 22) (v := 0) B rfl dX0_closesBareCircle_22 ?_
      have hE11 : 0 = m_X0_closesBareCircle c u t := (by unfold m_X0_closesBareCircle; rw [if_neg h1, if_pos h3])
      exact zv_zret (pc := 23) B (0) rfl hr (fun H hP => ⟨(), (congrArg (fun z => some (Value.int z)) hE11), hP⟩) (Nat.le_of_ble_eq_true rfl) (Nat.le_of_ble_eq_true rfl) dX0_closesBareCircle_23

def m_X3_note (c : Nat → Nat → Int32) (w : Nat → Int64) (x : Int32) : (Nat → Nat → Int32) × (Nat → Int64) := if x = 0 then (zup (zup (zup (zup c 107 (zn ((c 106 1) &&& 63)) x) 106 1 ((c 106 1) + 1)) 106 2 (zmax (c 106 2) (zabs x))) 106 4 ((c 106 4) + 1), va_up w 106 ((w 106) + (((x).toInt64) * ((x).toInt64)))) else (zup (zup (zup c 107 (zn ((c 106 1) &&& 63)) x) 106 1 ((c 106 1) + 1)) 106 2 (zmax (c 106 2) (zabs x)), va_up w 106 ((w 106) + (((x).toInt64) * ((x).toInt64))))
set_option maxRecDepth 100000 in
set_option maxHeartbeats 4000000 in
theorem k_X3_note (l : Launch) (E : zE) (b : Nat) (c : Nat → Nat → Int32) (w : Nat → Int64) (en : Nat → Nat) (ea : Nat → Nat → Int32) (x : Int32) (hg : zG c) : zM l yX3_note (.code yX3_note cX3_note 2 none :: zAll) (zRm 1 0 0) E b [.ref (b + 106), .int x] (zH E b c w en ea) (fun v9 (_ : Unit) => v9 = none ∧ zfr 106 108 106 106 c (m_X3_note c w x).1 ∧ zG (m_X3_note c w x).1) (fun _ => zH E b ((m_X3_note c w x).1) ((m_X3_note c w x).2) en ea) 0 0 := by
  refine zM_of "ToneGraph$Meter" (by decide) rfl rfl (Nat.le_of_ble_eq_true rfl) (L0 := [(0, .ref (b + 106)), (1, .int x)]) rfl ?_
  intro p e s m args below meth c9 B hr hname
  refine zv_aload_n (pc := 0) B 0 rfl dX3_note_0 ?_
  refine zv_get (pc := 1) (v := .ref (b + 107)) B (zat (by decide) (z106 _ _ _)) cl3 inX3 0 (by decide) wf_X3_9 rfl dX3_note_1 ?_
  refine zv_aload_n (pc := 4) B 0 rfl dX3_note_4 ?_
  refine zv_get (pc := 5) (v := .int (c 106 1)) B (zat (by decide) (z106 _ _ _)) cl3 inX3 1 (by decide) wf_X3_15 rfl dX3_note_5 ?_
  refine zv_bipush (pc := 8) (v := 63) B rfl dX3_note_8 ?_
  refine zv_iand (pc := 10) B dX3_note_10 ?_
  refine zv_iload_n (pc := 11) B 1 rfl dX3_note_11 ?_
  refine zs_iast (pc := 12) (jj := (zn ((c 106 1) &&& 63))) B zid (by decide) rfl (fun x w e => z107 x w e) (zn_eq ((c 106 1) &&& 63)) (Nat.lt_succ_of_le (zn_and _ rfl)) (by decide) dX3_note_12 ?_
  refine zv_aload_n (pc := 13) B 0 rfl dX3_note_13 ?_
  refine zv_dup (pc := 14) B rfl dX3_note_14 ?_
  refine zv_get (pc := 15) (v := .int ((zup c 107 (zn ((c 106 1) &&& 63)) x) 106 1)) B (zat (by decide) (z106 _ _ _)) cl3 inX3 1 (by decide) wf_X3_15 rfl dX3_note_15 ?_
  refine zv_topi (y := c 106 1) (by rw [zup_i (i := 107) (i' := 106) _ _ _ (by decide)]) ?_
  refine zv_iconst (pc := 18) (v := 1) B rfl dX3_note_18 ?_
  refine zv_iadd (pc := 19) B dX3_note_19 ?_
  refine zs_put9 (pc := 20) (f := 1) (F := fun x9 => [.ref (b + 107), .int (x9 1), .int (x9 2), .long (w 106), .int (x9 4)]) B zid (by decide) rfl (fun x => z106 x _ _) cl3 inX3 tyX3 tyX3_ok nmX3 (by decide) wf_X3_15 rfl rfl rfl rfl (Nat.le_of_ble_eq_true rfl) (fun _ _ => rfl) dX3_note_20 ?_
  refine zv_aload_n (pc := 23) B 0 rfl dX3_note_23 ?_
  refine zv_aload_n (pc := 24) B 0 rfl dX3_note_24 ?_
  refine zv_get (pc := 25) (v := .int ((zup (zup c 107 (zn ((c 106 1) &&& 63)) x) 106 1 ((c 106 1) + 1)) 106 2)) B (zat (by decide) (z106 _ _ _)) cl3 inX3 2 (by decide) wf_X3_19 rfl dX3_note_25 ?_
  refine zv_topi (y := c 106 2) (by rw [zup_k (k := 1) (k' := 2) _ _ (by decide), zup_i (i := 107) (i' := 106) _ _ _ (by decide)]) ?_
  refine zv_iload_n (pc := 28) B 1 rfl dX3_note_28 ?_
  refine zv_mabs (pc := 29) B wm_X3_22 ws_Math_abs wn_Math wcode_Math_abs (Nat.le_of_ble_eq_true rfl) (Nat.le_of_ble_eq_true rfl) (Nat.le_of_ble_eq_true rfl) (Nat.le_of_ble_eq_true rfl) dX3_note_29 ?_
  refine zv_mmax (pc := 32) B wm_X3_28 ws_Math_max wn_Math wcode_Math_max (Nat.le_of_ble_eq_true rfl) (Nat.le_of_ble_eq_true rfl) (Nat.le_of_ble_eq_true rfl) (Nat.le_of_ble_eq_true rfl) dX3_note_32 ?_
  refine zs_put9 (pc := 35) (f := 2) (F := fun x9 => [.ref (b + 107), .int (x9 1), .int (x9 2), .long (w 106), .int (x9 4)]) B zid (by decide) rfl (fun x => z106 x _ _) cl3 inX3 tyX3 tyX3_ok nmX3 (by decide) wf_X3_19 rfl rfl rfl rfl (Nat.le_of_ble_eq_true rfl) (fun _ _ => rfl) dX3_note_35 ?_
  refine zv_aload_n (pc := 38) B 0 rfl dX3_note_38 ?_
  refine zv_dup (pc := 39) B rfl dX3_note_39 ?_
  refine zv_get (pc := 40) (v := .long (w 106)) B (zat (by decide) (z106 _ _ _)) cl3 inX3 3 (by decide) wf_X3_32 rfl dX3_note_40 ?_
  refine zv_iload_n (pc := 43) B 1 rfl dX3_note_43 ?_
  refine zv_i2l (pc := 44) B dX3_note_44 ?_
  refine zv_iload_n (pc := 45) B 1 rfl dX3_note_45 ?_
  refine zv_i2l (pc := 46) B dX3_note_46 ?_
  refine zv_lmul (pc := 47) B dX3_note_47 ?_
  refine zv_ladd (pc := 48) B dX3_note_48 ?_
  refine zs_putl (pc := 49) (f := 3) (F := fun w1 => [.ref (b + 107), .int ((zup (zup (zup c 107 (zn ((c 106 1) &&& 63)) x) 106 1 ((c 106 1) + 1)) 106 2 (zmax (c 106 2) (zabs x))) 106 1), .int ((zup (zup (zup c 107 (zn ((c 106 1) &&& 63)) x) 106 1 ((c 106 1) + 1)) 106 2 (zmax (c 106 2) (zabs x))) 106 2), .long w1, .int ((zup (zup (zup c 107 (zn ((c 106 1) &&& 63)) x) 106 1 ((c 106 1) + 1)) 106 2 (zmax (c 106 2) (zabs x))) 106 4)]) B zid (by decide) rfl (fun w1 => z106 _ w1 _) cl3 inX3 tyX3 tyX3_ok nmX3 (by decide) wf_X3_32 rfl rfl (Nat.le_of_ble_eq_true rfl) rfl dX3_note_49 ?_
  refine zv_iload_n (pc := 52) B 1 rfl dX3_note_52 ?_
  refine zv_if_ne (pc := 53) (tgt := 66) B dX3_note_53 rfl (fun h1 => ?_) (fun h1 => ?_)
  · have hE2 : (zup (zup (zup c 107 (zn ((c 106 1) &&& 63)) x) 106 1 ((c 106 1) + 1)) 106 2 (zmax (c 106 2) (zabs x)), va_up w 106 ((w 106) + (((x).toInt64) * ((x).toInt64)))) = m_X3_note c w x := (by unfold m_X3_note; rw [if_neg h1])
    exact zv_vret (pc := 66) B hr (fun H hP => ⟨(), ⟨rfl, Eq.subst (motive := fun z => zfr 106 108 106 106 c z.1) hE2 (zfr.up (zfr.up (zfr.up zfr.refl (by omega)) (by omega)) (by omega)), Eq.subst (motive := fun z => zG z.1) hE2 (zG.free (zG.free (zG.free hg (by unfold zfree; omega)) (by unfold zfree; omega)) (by unfold zfree; omega))⟩, Eq.subst (motive := fun z => zH E b z.1 z.2 en ea H) hE2 hP⟩) (Nat.le_of_ble_eq_true rfl) (Nat.le_of_ble_eq_true rfl) dX3_note_66
  · refine zv_aload_n (pc := 56) B 0 rfl dX3_note_56 ?_
    refine zv_dup (pc := 57) B rfl dX3_note_57 ?_
    refine zv_get (pc := 58) (v := .int ((zup (zup (zup c 107 (zn ((c 106 1) &&& 63)) x) 106 1 ((c 106 1) + 1)) 106 2 (zmax (c 106 2) (zabs x))) 106 4)) B (zat (by decide) (z106 _ _ _)) cl3 inX3 4 (by decide) wf_X3_36 rfl dX3_note_58 ?_
    refine zv_topi (y := c 106 4) (by rw [zup_k (k := 2) (k' := 4) _ _ (by decide), zup_k (k := 1) (k' := 4) _ _ (by decide), zup_i (i := 107) (i' := 106) _ _ _ (by decide)]) ?_
    refine zv_iconst (pc := 61) (v := 1) B rfl dX3_note_61 ?_
    refine zv_iadd (pc := 62) B dX3_note_62 ?_
    refine zs_put9 (pc := 63) (f := 4) (F := fun x9 => [.ref (b + 107), .int (x9 1), .int (x9 2), .long ((va_up w 106 ((w 106) + (((x).toInt64) * ((x).toInt64)))) 106), .int (x9 4)]) B zid (by decide) rfl (fun x => z106 x _ _) cl3 inX3 tyX3 tyX3_ok nmX3 (by decide) wf_X3_36 rfl rfl rfl rfl (Nat.le_of_ble_eq_true rfl) (fun _ _ => rfl) dX3_note_63 ?_
    have hE3 : (zup (zup (zup (zup c 107 (zn ((c 106 1) &&& 63)) x) 106 1 ((c 106 1) + 1)) 106 2 (zmax (c 106 2) (zabs x))) 106 4 ((c 106 4) + 1), va_up w 106 ((w 106) + (((x).toInt64) * ((x).toInt64)))) = m_X3_note c w x := (by unfold m_X3_note; rw [if_pos h1])
    exact zv_vret (pc := 66) B hr (fun H hP => ⟨(), ⟨rfl, Eq.subst (motive := fun z => zfr 106 108 106 106 c z.1) hE3 (zfr.up (zfr.up (zfr.up (zfr.up zfr.refl (by omega)) (by omega)) (by omega)) (by omega)), Eq.subst (motive := fun z => zG z.1) hE3 (zG.free (zG.free (zG.free (zG.free hg (by unfold zfree; omega)) (by unfold zfree; omega)) (by unfold zfree; omega)) (by unfold zfree; omega))⟩, Eq.subst (motive := fun z => zH E b z.1 z.2 en ea H) hE3 hP⟩) (Nat.le_of_ble_eq_true rfl) (Nat.le_of_ble_eq_true rfl) dX3_note_66

def m_X3_recall (c : Nat → Nat → Int32) (x : Int32) : Int32 := c 107 (zn ((((c 106 1) - 1) - x) &&& 63))
set_option maxRecDepth 100000 in
set_option maxHeartbeats 4000000 in
theorem k_X3_recall (l : Launch) (E : zE) (b : Nat) (c : Nat → Nat → Int32) (w : Nat → Int64) (en : Nat → Nat) (ea : Nat → Nat → Int32) (x : Int32) : zM l yX3_recall (.code yX3_recall cX3_recall 2 (some .int) :: zAll) (zRm 0 0 0) E b [.ref (b + 106), .int x] (zH E b c w en ea) (fun v9 (_ : Unit) => v9 = some (.int (m_X3_recall c x))) (fun _ => zH E b c w en ea) 0 0 := by
  refine zM_of "ToneGraph$Meter" (by decide) rfl rfl (Nat.le_of_ble_eq_true rfl) (L0 := [(0, .ref (b + 106)), (1, .int x)]) rfl ?_
  intro p e s m args below meth c9 B hr hname
  refine zv_aload_n (pc := 0) B 0 rfl dX3_recall_0 ?_
  refine zv_get (pc := 1) (v := .ref (b + 107)) B (zat (by decide) (z106 _ _ _)) cl3 inX3 0 (by decide) wf_X3_9 rfl dX3_recall_1 ?_
  refine zv_aload_n (pc := 4) B 0 rfl dX3_recall_4 ?_
  refine zv_get (pc := 5) (v := .int (c 106 1)) B (zat (by decide) (z106 _ _ _)) cl3 inX3 1 (by decide) wf_X3_15 rfl dX3_recall_5 ?_
  refine zv_iconst (pc := 8) (v := 1) B rfl dX3_recall_8 ?_
  refine zv_isub (pc := 9) B dX3_recall_9 ?_
  refine zv_iload_n (pc := 10) B 1 rfl dX3_recall_10 ?_
  refine zv_isub (pc := 11) B dX3_recall_11 ?_
  refine zv_bipush (pc := 12) (v := 63) B rfl dX3_recall_12 ?_
  refine zv_iand (pc := 14) B dX3_recall_14 ?_
  refine zv_iald (pc := 15) (jj := (zn ((((c 106 1) - 1) - x) &&& 63))) B (zat (by decide) (z107 _ _ _)) (zn_eq ((((c 106 1) - 1) - x) &&& 63)) (Nat.lt_succ_of_le (zn_and _ rfl)) (by decide) dX3_recall_15 ?_
  have hE1 : c 107 (zn ((((c 106 1) - 1) - x) &&& 63)) = m_X3_recall c x := (by unfold m_X3_recall; rfl)
  exact zv_iret (pc := 16) B (c 107 (zn ((((c 106 1) - 1) - x) &&& 63))) hr (fun H hP => ⟨(), (congrArg (fun z => some (Value.int z)) hE1), hP⟩) (Nat.le_of_ble_eq_true rfl) (Nat.le_of_ble_eq_true rfl) dX3_recall_16
