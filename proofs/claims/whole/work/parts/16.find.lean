theorem nI_sub {a b : Nat} (h : b ≤ a) : nI a - nI b = nI (a - b) := by
  obtain ⟨j, rfl⟩ : ∃ j, a = b + j := ⟨a - b, by omega⟩
  rw [← nI_add, show b + j - b = j by omega]
  apply Int32.toBitVec_inj.mp
  show (nI b).toBitVec + (nI j).toBitVec - (nI b).toBitVec = (nI j).toBitVec
  rw [BitVec.add_comm, BitVec.add_sub_cancel]
def zsz (c : Nat → Nat → Int32) (y : Nat) : Nat := zn (zmax 1 (zmin (nI y) (m_X0_shortestDelay c)))
theorem zsz_in (c : Nat → Nat → Int32) {y : Nat} (hy : y ≤ 64) : 1 ≤ zsz c y ∧ zsz c y ≤ 64 := by
  unfold zsz
  generalize m_X0_shortestDelay c = d
  unfold zmax
  split
  · rename_i h
    unfold zmin at h ⊢
    split at h
    · rename_i h2
      rw [if_pos h2]
      have h0 : ¬ d < 0 := fun q => absurd (Int32.lt_trans (Int32.lt_trans h q) (show (0 : Int32) < 1 by decide)) Int32.lt_irrefl
      obtain ⟨j, hj, rfl⟩ := nI_of h0
      have a1 := (z_lt (a := 1) (b := j) rfl rfl (by omega) (by omega)).mp h
      have a2 := (z_lt (a := j) (b := y) rfl rfl (by omega) (by omega)).mp h2
      rw [zn_nI (by omega)]; omega
    · rename_i h2
      rw [if_neg h2]
      have a1 := (z_lt (a := 1) (b := y) rfl rfl (by omega) (by omega)).mp h
      rw [zn_nI (by omega)]; omega
  · decide
theorem zsome {s z i : Nat} (hz : z ≤ 64) (hs : s ≤ 64) (hi : i ≤ z) : zmin (nI s) (nI z - nI i) = nI (min s (z - i)) := by
  rw [nI_sub hi]
  unfold zmin
  by_cases h : z - i < s
  · rw [if_pos ((z_lt rfl rfl (by omega) (by omega)).mpr h), show min s (z - i) = z - i by omega]
  · rw [if_neg (fun q => h ((z_lt rfl rfl (by omega) (by omega)).mp q)), show min s (z - i) = s by omega]

def g2_X4_findBlock (c : Nat → Nat → Int32) (ea : Nat → Nat → Int32) (o : Nat) (z : Nat)  : Nat → Nat → (Nat → Nat → Int32) → (Nat → (Nat → Nat → Int32) → (Nat → Nat → Int32)) → (Nat → Nat → Int32)
  | 0, i, c2, K => K i c2
  | n + 1, i, c2, K => if (c 2 i) = 100 then (g2_X4_findBlock c ea o z n (i + 1) (zup (m_X4_feedDelay c2 o i z) (o + 22) i (c2 (o + 12 + i) (z - 1))) K) else (g2_X4_findBlock c ea o z n (i + 1) (zup c2 (o + 22) i (c2 (o + 12 + i) (z - 1))) K)
def g1_X4_findBlock (c : Nat → Nat → Int32) (ea : Nat → Nat → Int32) (o : Nat) (z : Nat)  : Nat → Nat → (Nat → Nat → Int32) → (Nat → (Nat → Nat → Int32) → (Nat → Nat → Int32)) → (Nat → Nat → Int32)
  | 0, i, c1, K => K i c1
  | n + 1, i, c1, K => if (c 2 (zn (c 33 i))) = 118 then (g1_X4_findBlock c ea o z n (i + 1) (m_X4_findVoices c1 ea o (zn (c 33 i)) z) K) else (if (c 2 (zn (c 33 i))) = 103 then (g1_X4_findBlock c ea o z n (i + 1) (m_X4_findGain c1 o (zn (c 33 i)) z) K) else (if (c 2 (zn (c 33 i))) = 100 then (g1_X4_findBlock c ea o z n (i + 1) (m_X4_findDelay c1 o (zn (c 33 i)) z) K) else (if (c 2 (zn (c 33 i))) = 102 then (g1_X4_findBlock c ea o z n (i + 1) (m_X4_findFilter c1 o (zn (c 33 i)) z) K) else (g1_X4_findBlock c ea o z n (i + 1) (m_X4_findBus c1 o (zn (c 33 i)) z) K))))
def m_X4_findBlock (c : Nat → Nat → Int32) (ea : Nat → Nat → Int32) (o : Nat) (z : Nat) : (Nat → Nat → Int32) := g1_X4_findBlock c ea o z (zn (c 1 0)) 0 c (fun i c1 => g2_X4_findBlock c ea o z (zn (c 1 0)) 0 c1 (fun i c2 => c2))
set_option maxRecDepth 100000 in
set_option maxHeartbeats 4000000 in
theorem k_X4_findBlock (l : Launch) (E : zE) (b : Nat) (c : Nat → Nat → Int32) (w : Nat → Int64) (en : Nat → Nat) (ea : Nat → Nat → Int32) {o : Nat} (ho : zTk o) {z : Nat} (h1z : 1 ≤ z) (hz : z ≤ 64) (hg : zG c) : zM l yX4_findBlock (.code yX4_findBlock cX4_findBlock 5 none :: zAll) (zRm 3 0 0) E b [.ref (b + o), .int (nI z)] (zH E b c w en ea) (fun v9 (_ : Unit) => v9 = none ∧ zfr (o + 3) (o + 36) (o + 3) (o + 3) c (m_X4_findBlock c ea o z) ∧ zG (m_X4_findBlock c ea o z)) (fun _ => zH E b (m_X4_findBlock c ea o z) w en ea) 0 0 := by
  refine zM_of "ToneGraph$Track" (by decide) rfl rfl (Nat.le_of_ble_eq_true rfl) (L0 := [(0, .ref (b + o)), (1, .int (nI z))]) rfl ?_
  intro p e s m args below meth c9 B hr hname
  have ho9 : o = 34 ∨ o = 70 := ho
  have hcn : zn (c 1 0) ≤ 10 := hg 1 0
  refine zv_iconst (pc := 0) (v := 0) B rfl dX4_findBlock_0 ?_
  refine zv_istore_n (pc := 1) (L' := [(2, .int 0), (0, .ref (b + o)), (1, .int (nI z))]) B (by decide) rfl dX4_findBlock_1 ?_
  have loop1 : ∀ (K : Nat → (Nat → Nat → Int32) → (Nat → Nat → Int32)) (n : Nat) (i : Nat) (c1 : Nat → Nat → Int32), zfr (o + 3) (o + 36) (o + 3) (o + 3) c c1 → zG c1 → i + n = zn (c 1 0) → g1_X4_findBlock c ea o z n i c1 K = m_X4_findBlock c ea o z → (∀ (i : Nat) (c1 : Nat → Nat → Int32), zfr (o + 3) (o + 36) (o + 3) (o + 3) c c1 → zG c1 → i ≤ zn (c 1 0) → K i c1 = m_X4_findBlock c ea o z → zV p l e (zRm 3 0 0) s m args below meth c9 (MQ below (zQ b (fun v9 (_ : Unit) => v9 = none ∧ zfr (o + 3) (o + 36) (o + 3) (o + 3) c (m_X4_findBlock c ea o z) ∧ zG (m_X4_findBlock c ea o z)) (fun _ => zH E b (m_X4_findBlock c ea o z) w en ea)) args s 0 0 (zA b)) 5 b (zH E b c1 w en ea) 110 [(0, .ref (b + o)), (1, .int (nI z)), (2, .int (nI i))] [] 0 0) → zV p l e (zRm 3 0 0) s m args below meth c9 (MQ below (zQ b (fun v9 (_ : Unit) => v9 = none ∧ zfr (o + 3) (o + 36) (o + 3) (o + 3) c (m_X4_findBlock c ea o z) ∧ zG (m_X4_findBlock c ea o z)) (fun _ => zH E b (m_X4_findBlock c ea o z) w en ea)) args s 0 0 (zA b)) 5 b (zH E b c1 w en ea) 2 [(0, .ref (b + o)), (1, .int (nI z)), (2, .int (nI i))] [] 0 0 := by
    intro K n
    induction n with
    | zero =>
      intro i c1 hF1 hg1 hi hE901 hK
      refine zv_iload_n (pc := 2) B 2 rfl dX4_findBlock_2 ?_
      refine zv_aload_n (pc := 3) B 0 rfl dX4_findBlock_3 ?_
      refine zv_get (pc := 4) (v := .ref (b + 1)) B (zat (zTk.lt ho (k := 0) (by decide)) (zt_trk ho _ _ _)) cl4 inX4 0 (by decide) wf_X4_36 rfl dX4_findBlock_4 ?_
      refine zv_get (pc := 7) (v := .int (c1 1 0)) B (zat (by decide) (z1 _ _ _)) cl0 inX0 0 (by decide) wf_X4_44 rfl dX4_findBlock_7 ?_
      refine zv_topi (y := c 1 0) (by rw [hF1 1 (by omega)]) ?_
      refine zv_icmp_ge (pc := 10) (tgt := 110) B dX4_findBlock_10 rfl (fun _ => ?_) (fun h9 => absurd ((z_le (a := (zn (c 1 0))) (b := i) (zn_eq (c 1 0)) rfl (by have h8 := (show zn _ ≤ 10 from hg 1 0); omega) (by have h8 := (show zn _ ≤ 10 from hg 1 0); omega)).mpr (by have h8 := (show zn _ ≤ 10 from hg 1 0); omega)) h9)
      exact hK i c1 hF1 hg1 (by omega) (Eq.trans (by rw [g1_X4_findBlock]) hE901)
    | succ n ih =>
      intro i c1 hF1 hg1 hi hE901 hK
      refine zv_iload_n (pc := 2) B 2 rfl dX4_findBlock_2 ?_
      refine zv_aload_n (pc := 3) B 0 rfl dX4_findBlock_3 ?_
      refine zv_get (pc := 4) (v := .ref (b + 1)) B (zat (zTk.lt ho (k := 0) (by decide)) (zt_trk ho _ _ _)) cl4 inX4 0 (by decide) wf_X4_36 rfl dX4_findBlock_4 ?_
      refine zv_get (pc := 7) (v := .int (c1 1 0)) B (zat (by decide) (z1 _ _ _)) cl0 inX0 0 (by decide) wf_X4_44 rfl dX4_findBlock_7 ?_
      refine zv_topi (y := c 1 0) (by rw [hF1 1 (by omega)]) ?_
      refine zv_icmp_ge (pc := 10) (tgt := 110) B dX4_findBlock_10 rfl (fun h9 => absurd h9 (fun q9 => absurd ((z_le (a := (zn (c 1 0))) (b := i) (zn_eq (c 1 0)) rfl (by have h8 := (show zn _ ≤ 10 from hg 1 0); omega) (by have h8 := (show zn _ ≤ 10 from hg 1 0); omega)).mp q9) (by have h8 := (show zn _ ≤ 10 from hg 1 0); omega))) (fun _ => ?_)
      refine zv_aload_n (pc := 13) B 0 rfl dX4_findBlock_13 ?_
      refine zv_get (pc := 14) (v := .ref (b + 1)) B (zat (zTk.lt ho (k := 0) (by decide)) (zt_trk ho _ _ _)) cl4 inX4 0 (by decide) wf_X4_36 rfl dX4_findBlock_14 ?_
      refine zv_get (pc := 17) (v := .ref (b + 33)) B (zat (by decide) (z1 _ _ _)) cl0 inX0 13 (by decide) wf_X4_80 rfl dX4_findBlock_17 ?_
      refine zv_iload_n (pc := 20) B 2 rfl dX4_findBlock_20 ?_
      refine zv_iald (pc := 21) (jj := i) B (zat (by decide) (z33 _ _ _)) rfl (by omega) (by decide) dX4_findBlock_21 ?_
      refine zv_topi (y := c 33 i) (by rw [hF1 33 (by omega)]) ?_
      refine zv_istore_n (pc := 22) (L' := [(3, .int (c 33 i)), (0, .ref (b + o)), (1, .int (nI z)), (2, .int (nI i))]) B (by decide) rfl dX4_findBlock_22 ?_
      refine zv_aload_n (pc := 23) B 1 rfl dX4_findBlock_23 ?_
      refine zv_get (pc := 24) (v := .ref (b + 1)) B (zat (zTk.lt ho (k := 0) (by decide)) (zt_trk ho _ _ _)) cl4 inX4 0 (by decide) wf_X4_36 rfl dX4_findBlock_24 ?_
      refine zv_get (pc := 27) (v := .ref (b + 2)) B (zat (by decide) (z1 _ _ _)) cl0 inX0 2 (by decide) wf_X4_50 rfl dX4_findBlock_27 ?_
      refine zv_iload_n (pc := 30) B 0 rfl dX4_findBlock_30 ?_
      refine zv_cald (pc := 31) (jj := (zn (c 33 i))) B (zat (by decide) (z2 _ _ _)) (zn_eq (c 33 i)) (by have h8 := (show zn _ ≤ 9 from hg 33 i); omega) (by decide) dX4_findBlock_31 ?_
      refine zv_topi (y := c 2 (zn (c 33 i))) (by rw [hF1 2 (by omega)]) ?_
      refine zv_istore (pc := 32) (L' := [(4, .int (c 2 (zn (c 33 i)))), (3, .int (c 33 i)), (0, .ref (b + o)), (1, .int (nI z)), (2, .int (nI i))]) B (by decide) rfl dX4_findBlock_32 ?_
      refine zv_iload (pc := 34) B 0 rfl dX4_findBlock_34 ?_
      refine zv_bipush (pc := 36) (v := 118) B rfl dX4_findBlock_36 ?_
      refine zv_icmp_ne (pc := 38) (tgt := 50) B dX4_findBlock_38 rfl (fun h3 => ?_) (fun h3 => ?_)
      · refine zv_iload (pc := 50) B 0 rfl dX4_findBlock_50 ?_
        refine zv_bipush (pc := 52) (v := 103) B rfl dX4_findBlock_52 ?_
        refine zv_icmp_ne (pc := 54) (tgt := 66) B dX4_findBlock_54 rfl (fun h4 => ?_) (fun h4 => ?_)
        · refine zv_iload (pc := 66) B 0 rfl dX4_findBlock_66 ?_
          refine zv_bipush (pc := 68) (v := 100) B rfl dX4_findBlock_68 ?_
          refine zv_icmp_ne (pc := 70) (tgt := 82) B dX4_findBlock_70 rfl (fun h5 => ?_) (fun h5 => ?_)
          · refine zv_iload (pc := 82) B 0 rfl dX4_findBlock_82 ?_
            refine zv_bipush (pc := 84) (v := 102) B rfl dX4_findBlock_84 ?_
            refine zv_icmp_ne (pc := 86) (tgt := 98) B dX4_findBlock_86 rfl (fun h6 => ?_) (fun h6 => ?_)
            · refine zv_aload_n (pc := 98) B 2 rfl dX4_findBlock_98 ?_
              refine zv_iload_n (pc := 99) B 1 rfl dX4_findBlock_99 ?_
              refine zv_iload_n (pc := 100) B 3 rfl dX4_findBlock_100 ?_
              refine zv_st (st' := [.int (nI z), .int (nI (zn (c 33 i))), .ref (b + o)]) (by rw [← zn_eq (c 33 i)]) ?_
              refine zv_callV (pc := 101) (As := [.int (nI (zn (c 33 i))), .int (nI z)]) (rest := []) B (k_X4_findBus l E b _ _ _ _ ho (by have h8 := (show zn _ ≤ 9 from hg 33 i); omega) hz hg1) (zcwV 2 2 B wm_X4_96 wi_X4_findBus wv_X4_findBus wn_X4 wcode_X4_findBus rfl (by decide +kernel) ⟨(Nat.le_of_ble_eq_true rfl), (Nat.le_of_ble_eq_true rfl)⟩) rfl (zrecv B (zat (zTk.lt ho (k := 0) (by decide)) (zt_trk ho _ _ _)) cl4) zid rfl (Nat.le_of_ble_eq_true rfl) dX4_findBlock_101 ⟨(Nat.le_of_ble_eq_true rfl), (Nat.le_of_ble_eq_true rfl)⟩ (fun v9 u9 hv9 => ?_)
              obtain ⟨rfl, hF2007, hg2007⟩ := hv9
              refine zv_st (st' := []) rfl ?_
              refine zv_iinc (pc := 104) (v := nI (i + 1)) (L' := [(2, .int (nI (i + 1))), (4, .int (c 2 (zn (c 33 i)))), (3, .int (c 33 i)), (0, .ref (b + o)), (1, .int (nI z))]) B 4 rfl (nI_1 _) (by decide) rfl dX4_findBlock_104 ?_
              refine zv_goto (pc := 107) (tgt := 2) B rfl dX4_findBlock_107 ?_
              refine zv_loc (L' := [(0, .ref (b + o)), (1, .int (nI z)), (2, .int (nI (i + 1)))]) [3, 4, 0] rfl ?_
              exact ih (i + 1) (m_X4_findBus c1 o (zn (c 33 i)) z) (zfr.call hF1 hF2007 (by omega)) hg2007 (by omega) (Eq.trans (by rw [g1_X4_findBlock, if_neg h3, if_neg h4, if_neg h5, if_neg h6]) hE901) hK
            · refine zv_aload_n (pc := 89) B 2 rfl dX4_findBlock_89 ?_
              refine zv_iload_n (pc := 90) B 1 rfl dX4_findBlock_90 ?_
              refine zv_iload_n (pc := 91) B 3 rfl dX4_findBlock_91 ?_
              refine zv_st (st' := [.int (nI z), .int (nI (zn (c 33 i))), .ref (b + o)]) (by rw [← zn_eq (c 33 i)]) ?_
              refine zv_callV (pc := 92) (As := [.int (nI (zn (c 33 i))), .int (nI z)]) (rest := []) B (k_X4_findFilter l E b _ _ _ _ ho (by have h8 := (show zn _ ≤ 9 from hg 33 i); omega) hz hg1) (zcwV 2 2 B wm_X4_93 wi_X4_findFilter wv_X4_findFilter wn_X4 wcode_X4_findFilter rfl (by decide +kernel) ⟨(Nat.le_of_ble_eq_true rfl), (Nat.le_of_ble_eq_true rfl)⟩) rfl (zrecv B (zat (zTk.lt ho (k := 0) (by decide)) (zt_trk ho _ _ _)) cl4) zid rfl (Nat.le_of_ble_eq_true rfl) dX4_findBlock_92 ⟨(Nat.le_of_ble_eq_true rfl), (Nat.le_of_ble_eq_true rfl)⟩ (fun v9 u9 hv9 => ?_)
              obtain ⟨rfl, hF2008, hg2008⟩ := hv9
              refine zv_st (st' := []) rfl ?_
              refine zv_goto (pc := 95) (tgt := 104) B rfl dX4_findBlock_95 ?_
              refine zv_iinc (pc := 104) (v := nI (i + 1)) (L' := [(2, .int (nI (i + 1))), (4, .int (c 2 (zn (c 33 i)))), (3, .int (c 33 i)), (0, .ref (b + o)), (1, .int (nI z))]) B 4 rfl (nI_1 _) (by decide) rfl dX4_findBlock_104 ?_
              refine zv_goto (pc := 107) (tgt := 2) B rfl dX4_findBlock_107 ?_
              refine zv_loc (L' := [(0, .ref (b + o)), (1, .int (nI z)), (2, .int (nI (i + 1)))]) [3, 4, 0] rfl ?_
              exact ih (i + 1) (m_X4_findFilter c1 o (zn (c 33 i)) z) (zfr.call hF1 hF2008 (by omega)) hg2008 (by omega) (Eq.trans (by rw [g1_X4_findBlock, if_neg h3, if_neg h4, if_neg h5, if_pos h6]) hE901) hK
          · refine zv_aload_n (pc := 73) B 2 rfl dX4_findBlock_73 ?_
            refine zv_iload_n (pc := 74) B 1 rfl dX4_findBlock_74 ?_
            refine zv_iload_n (pc := 75) B 3 rfl dX4_findBlock_75 ?_
            refine zv_st (st' := [.int (nI z), .int (nI (zn (c 33 i))), .ref (b + o)]) (by rw [← zn_eq (c 33 i)]) ?_
            refine zv_callV (pc := 76) (As := [.int (nI (zn (c 33 i))), .int (nI z)]) (rest := []) B (k_X4_findDelay l E b _ _ _ _ ho (by have h8 := (show zn _ ≤ 9 from hg 33 i); omega) hz hg1) (zcwV 2 1 B wm_X4_90 wi_X4_findDelay wv_X4_findDelay wn_X4 wcode_X4_findDelay rfl (by decide +kernel) ⟨(Nat.le_of_ble_eq_true rfl), (Nat.le_of_ble_eq_true rfl)⟩) rfl (zrecv B (zat (zTk.lt ho (k := 0) (by decide)) (zt_trk ho _ _ _)) cl4) zid rfl (Nat.le_of_ble_eq_true rfl) dX4_findBlock_76 ⟨(Nat.le_of_ble_eq_true rfl), (Nat.le_of_ble_eq_true rfl)⟩ (fun v9 u9 hv9 => ?_)
            obtain ⟨rfl, hF2009, hg2009⟩ := hv9
            refine zv_st (st' := []) rfl ?_
            refine zv_goto (pc := 79) (tgt := 104) B rfl dX4_findBlock_79 ?_
            refine zv_iinc (pc := 104) (v := nI (i + 1)) (L' := [(2, .int (nI (i + 1))), (4, .int (c 2 (zn (c 33 i)))), (3, .int (c 33 i)), (0, .ref (b + o)), (1, .int (nI z))]) B 4 rfl (nI_1 _) (by decide) rfl dX4_findBlock_104 ?_
            refine zv_goto (pc := 107) (tgt := 2) B rfl dX4_findBlock_107 ?_
            refine zv_loc (L' := [(0, .ref (b + o)), (1, .int (nI z)), (2, .int (nI (i + 1)))]) [3, 4, 0] rfl ?_
            exact ih (i + 1) (m_X4_findDelay c1 o (zn (c 33 i)) z) (zfr.call hF1 hF2009 (by omega)) hg2009 (by omega) (Eq.trans (by rw [g1_X4_findBlock, if_neg h3, if_neg h4, if_pos h5]) hE901) hK
        · refine zv_aload_n (pc := 57) B 2 rfl dX4_findBlock_57 ?_
          refine zv_iload_n (pc := 58) B 1 rfl dX4_findBlock_58 ?_
          refine zv_iload_n (pc := 59) B 3 rfl dX4_findBlock_59 ?_
          refine zv_st (st' := [.int (nI z), .int (nI (zn (c 33 i))), .ref (b + o)]) (by rw [← zn_eq (c 33 i)]) ?_
          refine zv_callV (pc := 60) (As := [.int (nI (zn (c 33 i))), .int (nI z)]) (rest := []) B (k_X4_findGain l E b _ _ _ _ ho (by have h8 := (show zn _ ≤ 9 from hg 33 i); omega) hz hg1) (zcwV 2 2 B wm_X4_87 wi_X4_findGain wv_X4_findGain wn_X4 wcode_X4_findGain rfl (by decide +kernel) ⟨(Nat.le_of_ble_eq_true rfl), (Nat.le_of_ble_eq_true rfl)⟩) rfl (zrecv B (zat (zTk.lt ho (k := 0) (by decide)) (zt_trk ho _ _ _)) cl4) zid rfl (Nat.le_of_ble_eq_true rfl) dX4_findBlock_60 ⟨(Nat.le_of_ble_eq_true rfl), (Nat.le_of_ble_eq_true rfl)⟩ (fun v9 u9 hv9 => ?_)
          obtain ⟨rfl, hF2010, hg2010⟩ := hv9
          refine zv_st (st' := []) rfl ?_
          refine zv_goto (pc := 63) (tgt := 104) B rfl dX4_findBlock_63 ?_
          refine zv_iinc (pc := 104) (v := nI (i + 1)) (L' := [(2, .int (nI (i + 1))), (4, .int (c 2 (zn (c 33 i)))), (3, .int (c 33 i)), (0, .ref (b + o)), (1, .int (nI z))]) B 4 rfl (nI_1 _) (by decide) rfl dX4_findBlock_104 ?_
          refine zv_goto (pc := 107) (tgt := 2) B rfl dX4_findBlock_107 ?_
          refine zv_loc (L' := [(0, .ref (b + o)), (1, .int (nI z)), (2, .int (nI (i + 1)))]) [3, 4, 0] rfl ?_
          exact ih (i + 1) (m_X4_findGain c1 o (zn (c 33 i)) z) (zfr.call hF1 hF2010 (by omega)) hg2010 (by omega) (Eq.trans (by rw [g1_X4_findBlock, if_neg h3, if_pos h4]) hE901) hK
      · refine zv_aload_n (pc := 41) B 2 rfl dX4_findBlock_41 ?_
        refine zv_iload_n (pc := 42) B 1 rfl dX4_findBlock_42 ?_
        refine zv_iload_n (pc := 43) B 3 rfl dX4_findBlock_43 ?_
        refine zv_st (st' := [.int (nI z), .int (nI (zn (c 33 i))), .ref (b + o)]) (by rw [← zn_eq (c 33 i)]) ?_
        refine zv_callV (pc := 44) (As := [.int (nI (zn (c 33 i))), .int (nI z)]) (rest := []) B (k_X4_findVoices l E b _ _ _ _ ho (by have h8 := (show zn _ ≤ 9 from hg 33 i); omega) hz hg1) (zcwV 2 2 B wm_X4_83 wi_X4_findVoices wv_X4_findVoices wn_X4 wcode_X4_findVoices rfl (by decide +kernel) ⟨(Nat.le_of_ble_eq_true rfl), (Nat.le_of_ble_eq_true rfl)⟩) rfl (zrecv B (zat (zTk.lt ho (k := 0) (by decide)) (zt_trk ho _ _ _)) cl4) zid rfl (Nat.le_of_ble_eq_true rfl) dX4_findBlock_44 ⟨(Nat.le_of_ble_eq_true rfl), (Nat.le_of_ble_eq_true rfl)⟩ (fun v9 u9 hv9 => ?_)
        obtain ⟨rfl, hF2011, hg2011⟩ := hv9
        refine zv_st (st' := []) rfl ?_
        refine zv_goto (pc := 47) (tgt := 104) B rfl dX4_findBlock_47 ?_
        refine zv_iinc (pc := 104) (v := nI (i + 1)) (L' := [(2, .int (nI (i + 1))), (4, .int (c 2 (zn (c 33 i)))), (3, .int (c 33 i)), (0, .ref (b + o)), (1, .int (nI z))]) B 4 rfl (nI_1 _) (by decide) rfl dX4_findBlock_104 ?_
        refine zv_goto (pc := 107) (tgt := 2) B rfl dX4_findBlock_107 ?_
        refine zv_loc (L' := [(0, .ref (b + o)), (1, .int (nI z)), (2, .int (nI (i + 1)))]) [3, 4, 0] rfl ?_
        exact ih (i + 1) (m_X4_findVoices c1 ea o (zn (c 33 i)) z) (zfr.call hF1 hF2011 (by omega)) hg2011 (by omega) (Eq.trans (by rw [g1_X4_findBlock, if_pos h3]) hE901) hK
  refine zv_loc (L' := [(0, .ref (b + o)), (1, .int (nI z)), (2, .int 0)]) [1, 2, 0] rfl ?_
  refine loop1 (fun i c1 => g2_X4_findBlock c ea o z (zn (c 1 0)) 0 c1 (fun i c2 => c2)) (zn (c 1 0)) 0 c zfr.refl hg (by omega) (by unfold m_X4_findBlock; rfl) ?_
  intro i c1 hF1 hg1 hx
  intro (hE951 : g2_X4_findBlock c ea o z (zn (c 1 0)) 0 c1 (fun i c2 => c2) = m_X4_findBlock c ea o z)
  refine zv_iconst (pc := 110) (v := 0) B rfl dX4_findBlock_110 ?_
  refine zv_istore_n (pc := 111) (L' := [(2, .int 0), (0, .ref (b + o)), (1, .int (nI z))]) B (by decide) rfl dX4_findBlock_111 ?_
  have loop2 : ∀ (K : Nat → (Nat → Nat → Int32) → (Nat → Nat → Int32)) (n : Nat) (i : Nat) (c2 : Nat → Nat → Int32), zfr (o + 3) (o + 36) (o + 3) (o + 3) c c2 → zG c2 → i + n = zn (c 1 0) → g2_X4_findBlock c ea o z n i c2 K = m_X4_findBlock c ea o z → (∀ (i : Nat) (c2 : Nat → Nat → Int32), zfr (o + 3) (o + 36) (o + 3) (o + 3) c c2 → zG c2 → i ≤ zn (c 1 0) → K i c2 = m_X4_findBlock c ea o z → zV p l e (zRm 3 0 0) s m args below meth c9 (MQ below (zQ b (fun v9 (_ : Unit) => v9 = none ∧ zfr (o + 3) (o + 36) (o + 3) (o + 3) c (m_X4_findBlock c ea o z) ∧ zG (m_X4_findBlock c ea o z)) (fun _ => zH E b (m_X4_findBlock c ea o z) w en ea)) args s 0 0 (zA b)) 5 b (zH E b c2 w en ea) 165 [(0, .ref (b + o)), (1, .int (nI z)), (2, .int (nI i))] [] 0 0) → zV p l e (zRm 3 0 0) s m args below meth c9 (MQ below (zQ b (fun v9 (_ : Unit) => v9 = none ∧ zfr (o + 3) (o + 36) (o + 3) (o + 3) c (m_X4_findBlock c ea o z) ∧ zG (m_X4_findBlock c ea o z)) (fun _ => zH E b (m_X4_findBlock c ea o z) w en ea)) args s 0 0 (zA b)) 5 b (zH E b c2 w en ea) 112 [(0, .ref (b + o)), (1, .int (nI z)), (2, .int (nI i))] [] 0 0 := by
    intro K n
    induction n with
    | zero =>
      intro i c2 hF2 hg2 hi hE902 hK
      refine zv_iload_n (pc := 112) B 2 rfl dX4_findBlock_112 ?_
      refine zv_aload_n (pc := 113) B 0 rfl dX4_findBlock_113 ?_
      refine zv_get (pc := 114) (v := .ref (b + 1)) B (zat (zTk.lt ho (k := 0) (by decide)) (zt_trk ho _ _ _)) cl4 inX4 0 (by decide) wf_X4_36 rfl dX4_findBlock_114 ?_
      refine zv_get (pc := 117) (v := .int (c2 1 0)) B (zat (by decide) (z1 _ _ _)) cl0 inX0 0 (by decide) wf_X4_44 rfl dX4_findBlock_117 ?_
      refine zv_topi (y := c 1 0) (by rw [hF2 1 (by omega)]) ?_
      refine zv_icmp_ge (pc := 120) (tgt := 165) B dX4_findBlock_120 rfl (fun _ => ?_) (fun h9 => absurd ((z_le (a := (zn (c 1 0))) (b := i) (zn_eq (c 1 0)) rfl (by have h8 := (show zn _ ≤ 10 from hg 1 0); omega) (by have h8 := (show zn _ ≤ 10 from hg 1 0); omega)).mpr (by have h8 := (show zn _ ≤ 10 from hg 1 0); omega)) h9)
      exact hK i c2 hF2 hg2 (by omega) (Eq.trans (by rw [g2_X4_findBlock]) hE902)
    | succ n ih =>
      intro i c2 hF2 hg2 hi hE902 hK
      refine zv_iload_n (pc := 112) B 2 rfl dX4_findBlock_112 ?_
      refine zv_aload_n (pc := 113) B 0 rfl dX4_findBlock_113 ?_
      refine zv_get (pc := 114) (v := .ref (b + 1)) B (zat (zTk.lt ho (k := 0) (by decide)) (zt_trk ho _ _ _)) cl4 inX4 0 (by decide) wf_X4_36 rfl dX4_findBlock_114 ?_
      refine zv_get (pc := 117) (v := .int (c2 1 0)) B (zat (by decide) (z1 _ _ _)) cl0 inX0 0 (by decide) wf_X4_44 rfl dX4_findBlock_117 ?_
      refine zv_topi (y := c 1 0) (by rw [hF2 1 (by omega)]) ?_
      refine zv_icmp_ge (pc := 120) (tgt := 165) B dX4_findBlock_120 rfl (fun h9 => absurd h9 (fun q9 => absurd ((z_le (a := (zn (c 1 0))) (b := i) (zn_eq (c 1 0)) rfl (by have h8 := (show zn _ ≤ 10 from hg 1 0); omega) (by have h8 := (show zn _ ≤ 10 from hg 1 0); omega)).mp q9) (by have h8 := (show zn _ ≤ 10 from hg 1 0); omega))) (fun _ => ?_)
      refine zv_aload_n (pc := 123) B 0 rfl dX4_findBlock_123 ?_
      refine zv_get (pc := 124) (v := .ref (b + 1)) B (zat (zTk.lt ho (k := 0) (by decide)) (zt_trk ho _ _ _)) cl4 inX4 0 (by decide) wf_X4_36 rfl dX4_findBlock_124 ?_
      refine zv_get (pc := 127) (v := .ref (b + 2)) B (zat (by decide) (z1 _ _ _)) cl0 inX0 2 (by decide) wf_X4_50 rfl dX4_findBlock_127 ?_
      refine zv_iload_n (pc := 130) B 2 rfl dX4_findBlock_130 ?_
      refine zv_cald (pc := 131) (jj := i) B (zat (by decide) (z2 _ _ _)) rfl (by omega) (by decide) dX4_findBlock_131 ?_
      refine zv_topi (y := c 2 i) (by rw [hF2 2 (by omega)]) ?_
      refine zv_bipush (pc := 132) (v := 100) B rfl dX4_findBlock_132 ?_
      refine zv_icmp_ne (pc := 134) (tgt := 143) B dX4_findBlock_134 rfl (fun h14 => ?_) (fun h14 => ?_)
      · refine zv_aload_n (pc := 143) B 0 rfl dX4_findBlock_143 ?_
        refine zv_get (pc := 144) (v := .ref (b + (o + 22))) B (zat (zTk.lt ho (k := 0) (by decide)) (zt_trk ho _ _ _)) cl4 inX4 3 (by decide) wf_X4_23 rfl dX4_findBlock_144 ?_
        refine zv_iload_n (pc := 147) B 2 rfl dX4_findBlock_147 ?_
        refine zv_aload_n (pc := 148) B 0 rfl dX4_findBlock_148 ?_
        refine zv_get (pc := 149) (v := .ref (b + (o + 11))) B (zat (zTk.lt ho (k := 0) (by decide)) (zt_trk ho _ _ _)) cl4 inX4 2 (by decide) wf_X4_20 rfl dX4_findBlock_149 ?_
        refine zv_iload_n (pc := 152) B 2 rfl dX4_findBlock_152 ?_
        refine zv_rald (pc := 153) (jj := i) (q1 := b + (o + 12 + i)) B (zat (ho.lt (by decide)) (zt_blk ho _ _ _)) rfl (by omega) (by decide) (if_pos (by omega)) dX4_findBlock_153 ?_
        refine zv_iload_n (pc := 154) B 1 rfl dX4_findBlock_154 ?_
        refine zv_iconst (pc := 155) (v := 1) B rfl dX4_findBlock_155 ?_
        refine zv_isub (pc := 156) B dX4_findBlock_156 ?_
        refine zv_topi (y := nI (z - 1)) (nI_pre h1z) ?_
        refine zv_iald (pc := 157) (jj := (z - 1)) B (zat (by have h9 : i < 10 := (by omega); have := zTk.lt ho (k := 12 + i) (by omega); omega) (zt_br ho (by omega) _ _ _)) rfl (by omega) (by decide) dX4_findBlock_157 ?_
        refine zs_iast (pc := 158) (jj := i) B zid (ho.lt (by decide)) (zt_lat_e ho) (fun x w e => zt_lat ho x w e) rfl (by omega) (by decide) dX4_findBlock_158 ?_
        refine zv_iinc (pc := 159) (v := nI (i + 1)) (L' := [(2, .int (nI (i + 1))), (0, .ref (b + o)), (1, .int (nI z))]) B 2 rfl (nI_1 _) (by decide) rfl dX4_findBlock_159 ?_
        refine zv_goto (pc := 162) (tgt := 112) B rfl dX4_findBlock_162 ?_
        refine zv_loc (L' := [(0, .ref (b + o)), (1, .int (nI z)), (2, .int (nI (i + 1)))]) [1, 2, 0] rfl ?_
        exact ih (i + 1) (zup c2 (o + 22) i (c2 (o + 12 + i) (z - 1))) (zfr.up hF2 (by omega)) (zG.free hg2 (by unfold zfree; omega)) (by omega) (Eq.trans (by rw [g2_X4_findBlock, if_neg h14]) hE902) hK
      · refine zv_aload_n (pc := 137) B 0 rfl dX4_findBlock_137 ?_
        refine zv_iload_n (pc := 138) B 2 rfl dX4_findBlock_138 ?_
        refine zv_iload_n (pc := 139) B 1 rfl dX4_findBlock_139 ?_
        refine zv_callV (pc := 140) (As := [.int (nI i), .int (nI z)]) (rest := []) B (k_X4_feedDelay l E b _ _ _ _ ho (by omega) hz hg2) (zcwV 2 2 B wm_X4_99 wi_X4_feedDelay wv_X4_feedDelay wn_X4 wcode_X4_feedDelay rfl (by decide +kernel) ⟨(Nat.le_of_ble_eq_true rfl), (Nat.le_of_ble_eq_true rfl)⟩) rfl (zrecv B (zat (zTk.lt ho (k := 0) (by decide)) (zt_trk ho _ _ _)) cl4) zid rfl (Nat.le_of_ble_eq_true rfl) dX4_findBlock_140 ⟨(Nat.le_of_ble_eq_true rfl), (Nat.le_of_ble_eq_true rfl)⟩ (fun v9 u9 hv9 => ?_)
        obtain ⟨rfl, hF2015, hg2015⟩ := hv9
        refine zv_st (st' := []) rfl ?_
        refine zv_aload_n (pc := 143) B 0 rfl dX4_findBlock_143 ?_
        refine zv_get (pc := 144) (v := .ref (b + (o + 22))) B (zat (zTk.lt ho (k := 0) (by decide)) (zt_trk ho _ _ _)) cl4 inX4 3 (by decide) wf_X4_23 rfl dX4_findBlock_144 ?_
        refine zv_iload_n (pc := 147) B 2 rfl dX4_findBlock_147 ?_
        refine zv_aload_n (pc := 148) B 0 rfl dX4_findBlock_148 ?_
        refine zv_get (pc := 149) (v := .ref (b + (o + 11))) B (zat (zTk.lt ho (k := 0) (by decide)) (zt_trk ho _ _ _)) cl4 inX4 2 (by decide) wf_X4_20 rfl dX4_findBlock_149 ?_
        refine zv_iload_n (pc := 152) B 2 rfl dX4_findBlock_152 ?_
        refine zv_rald (pc := 153) (jj := i) (q1 := b + (o + 12 + i)) B (zat (ho.lt (by decide)) (zt_blk ho _ _ _)) rfl (by omega) (by decide) (if_pos (by omega)) dX4_findBlock_153 ?_
        refine zv_iload_n (pc := 154) B 1 rfl dX4_findBlock_154 ?_
        refine zv_iconst (pc := 155) (v := 1) B rfl dX4_findBlock_155 ?_
        refine zv_isub (pc := 156) B dX4_findBlock_156 ?_
        refine zv_topi (y := nI (z - 1)) (nI_pre h1z) ?_
        refine zv_iald (pc := 157) (jj := (z - 1)) B (zat (by have h9 : i < 10 := (by omega); have := zTk.lt ho (k := 12 + i) (by omega); omega) (zt_br ho (by omega) _ _ _)) rfl (by omega) (by decide) dX4_findBlock_157 ?_
        refine zv_topi (y := c2 (o + 12 + i) (z - 1)) (by rw [hF2015 (o + 12 + i) (by have h8 : i < 10 := (by omega); omega)]) ?_
        refine zs_iast (pc := 158) (jj := i) B zid (ho.lt (by decide)) (zt_lat_e ho) (fun x w e => zt_lat ho x w e) rfl (by omega) (by decide) dX4_findBlock_158 ?_
        refine zv_iinc (pc := 159) (v := nI (i + 1)) (L' := [(2, .int (nI (i + 1))), (0, .ref (b + o)), (1, .int (nI z))]) B 2 rfl (nI_1 _) (by decide) rfl dX4_findBlock_159 ?_
        refine zv_goto (pc := 162) (tgt := 112) B rfl dX4_findBlock_162 ?_
        refine zv_loc (L' := [(0, .ref (b + o)), (1, .int (nI z)), (2, .int (nI (i + 1)))]) [1, 2, 0] rfl ?_
        exact ih (i + 1) (zup (m_X4_feedDelay c2 o i z) (o + 22) i (c2 (o + 12 + i) (z - 1))) (zfr.up (zfr.call hF2 hF2015 (by omega)) (by omega)) (zG.free hg2015 (by unfold zfree; omega)) (by omega) (Eq.trans (by rw [g2_X4_findBlock, if_pos h14]) hE902) hK
  refine zv_loc (L' := [(0, .ref (b + o)), (1, .int (nI z)), (2, .int 0)]) [1, 2, 0] rfl ?_
  refine loop2 (fun i c2 => c2) (zn (c 1 0)) 0 c1 hF1 hg1 (by omega) hE951 ?_
  intro i c2 hF2 hg2 hx
  intro (hE952 : c2 = m_X4_findBlock c ea o z)
  have hE16 : c2 = m_X4_findBlock c ea o z := hE952
  exact zv_vret (pc := 165) B hr (fun H hP => ⟨(), ⟨rfl, Eq.subst (motive := fun z => zfr (o + 3) (o + 36) (o + 3) (o + 3) c z) hE16 hF2, Eq.subst (motive := fun z => zG z) hE16 hg2⟩, Eq.subst (motive := fun z => zH E b z w en ea H) hE16 hP⟩) (Nat.le_of_ble_eq_true rfl) (Nat.le_of_ble_eq_true rfl) dX4_findBlock_165

def g1_X4_find (c : Nat → Nat → Int32) (ea : Nat → Nat → Int32) (o z y r : Nat)  : Nat → Nat → (Nat → Nat → Int32) → (Nat → (Nat → Nat → Int32) → (Nat → Nat → Int32)) → (Nat → Nat → Int32)
  | 0, i, c1, K => K i c1
  | n + 1, i, c1, K => if (nI z) ≤ (nI i) then (K i c1) else (g1_X4_find c ea o z y r n (i + zsz c y) (va_up (m_X4_findBlock c1 ea o (min (zsz c y) (z - i))) r (va_cpy ((m_X4_findBlock c1 ea o (min (zsz c y) (z - i))) (o + 12 + (zn (c 1 1)))) ((m_X4_findBlock c1 ea o (min (zsz c y) (z - i))) r) 0 i (min (zsz c y) (z - i)))) K)
def m_X4_find (c : Nat → Nat → Int32) (ea : Nat → Nat → Int32) (o z y r : Nat) : (Nat → Nat → Int32) := g1_X4_find c ea o z y r z 0 c (fun i c1 => c1)
set_option maxRecDepth 100000 in
set_option maxHeartbeats 4000000 in
theorem k_X4_find (l : Launch) (E : zE) (b : Nat) (c : Nat → Nat → Int32) (w : Nat → Int64) (en : Nat → Nat) (ea : Nat → Nat → Int32) {o : Nat} (ho : zTk o) {z : Nat} (hz : z ≤ 64) {y : Nat} (hy : y ≤ 64) {r : Nat} (hrw : r = 108 ∨ r = 109) (hg : zG c) : zM l yX4_find (.code yX4_find cX4_find 7 none :: zAll) (zRm 4 0 0) E b [.ref (b + o), .int (nI z), .int (nI y), .ref (b + r)] (zH E b c w en ea) (fun v9 (_ : Unit) => v9 = none ∧ zfr (o + 3) (o + 36) r (r + 1) c (m_X4_find c ea o z y r) ∧ zG (m_X4_find c ea o z y r)) (fun _ => zH E b (m_X4_find c ea o z y r) w en ea) 0 0 := by
  refine zM_of "ToneGraph$Track" (by decide) rfl rfl (Nat.le_of_ble_eq_true rfl) (L0 := [(0, .ref (b + o)), (1, .int (nI z)), (2, .int (nI y)), (3, .ref (b + r))]) rfl ?_
  intro p e s m args below meth c9 B hr hname
  have ho9 : o = 34 ∨ o = 70 := ho
  have hcn : zn (c 1 0) ≤ 10 := hg 1 0
  have hs1 := (zsz_in c hy).1
  have hs2 := (zsz_in c hy).2
  have ho1 : zn (c 1 1) ≤ 9 := hg 1 1
  have hc33 : zn (c 1 1) < 10 := by omega
  refine zv_iconst (pc := 0) (v := 1) B rfl dX4_find_0 ?_
  refine zv_iload_n (pc := 1) B 2 rfl dX4_find_1 ?_
  refine zv_aload_n (pc := 2) B 0 rfl dX4_find_2 ?_
  refine zv_get (pc := 3) (v := .ref (b + 1)) B (zat (zTk.lt ho (k := 0) (by decide)) (zt_trk ho _ _ _)) cl4 inX4 0 (by decide) wf_X4_36 rfl dX4_find_3 ?_
  refine zv_callV (pc := 6) (As := []) (rest := [.int (nI y), .int 1]) B (k_X0_shortestDelay l E b _ _ _ _  hg) (zcwV 0 1 B wm_X4_60 wi_X0_shortestDelay wv_X0_shortestDelay wn_X0 wcode_X0_shortestDelay rfl (by decide +kernel) ⟨(Nat.le_of_ble_eq_true rfl), (Nat.le_of_ble_eq_true rfl)⟩) rfl (zrecv B (zat (by decide) (z1 _ _ _)) cl0) zid rfl (Nat.le_of_ble_eq_true rfl) dX4_find_6 ⟨(Nat.le_of_ble_eq_true rfl), (Nat.le_of_ble_eq_true rfl)⟩ (fun v9 u9 hv9 => ?_)
  subst hv9
  refine zv_st (st' := [.int (m_X0_shortestDelay c), .int (nI y), .int 1]) rfl ?_
  refine zv_mmin (pc := 9) B wm_X4_64 ws_Math_min wn_Math wcode_Math_min (Nat.le_of_ble_eq_true rfl) (Nat.le_of_ble_eq_true rfl) (Nat.le_of_ble_eq_true rfl) (Nat.le_of_ble_eq_true rfl) dX4_find_9 ?_
  refine zv_mmax (pc := 12) B wm_X4_70 ws_Math_max wn_Math wcode_Math_max (Nat.le_of_ble_eq_true rfl) (Nat.le_of_ble_eq_true rfl) (Nat.le_of_ble_eq_true rfl) (Nat.le_of_ble_eq_true rfl) dX4_find_12 ?_
  refine zv_topi (y := nI (zsz c y)) (zn_eq _) ?_
  refine zv_istore (pc := 15) (L' := [(4, .int (nI (zsz c y))), (0, .ref (b + o)), (1, .int (nI z)), (2, .int (nI y)), (3, .ref (b + r))]) B (by decide) rfl dX4_find_15 ?_
  refine zv_iconst (pc := 17) (v := 0) B rfl dX4_find_17 ?_
  refine zv_istore (pc := 18) (L' := [(5, .int 0), (4, .int (nI (zsz c y))), (0, .ref (b + o)), (1, .int (nI z)), (2, .int (nI y)), (3, .ref (b + r))]) B (by decide) rfl dX4_find_18 ?_
  have loop1 : ∀ (K : Nat → (Nat → Nat → Int32) → (Nat → Nat → Int32)) (n : Nat) (i : Nat) (c1 : Nat → Nat → Int32), zfr (o + 3) (o + 36) r (r + 1) c c1 → zG c1 → i ≤ 128 → z ≤ i + n → g1_X4_find c ea o z y r n i c1 K = m_X4_find c ea o z y r → (∀ (i : Nat) (c1 : Nat → Nat → Int32), zfr (o + 3) (o + 36) r (r + 1) c c1 → zG c1 → i ≤ 128 → K i c1 = m_X4_find c ea o z y r → zV p l e (zRm 4 0 0) s m args below meth c9 (MQ below (zQ b (fun v9 (_ : Unit) => v9 = none ∧ zfr (o + 3) (o + 36) r (r + 1) c (m_X4_find c ea o z y r) ∧ zG (m_X4_find c ea o z y r)) (fun _ => zH E b (m_X4_find c ea o z y r) w en ea)) args s 0 0 (zA b)) 7 b (zH E b c1 w en ea) 74 [(0, .ref (b + o)), (1, .int (nI z)), (2, .int (nI y)), (3, .ref (b + r)), (4, .int (nI (zsz c y))), (5, .int (nI i))] [] 0 0) → zV p l e (zRm 4 0 0) s m args below meth c9 (MQ below (zQ b (fun v9 (_ : Unit) => v9 = none ∧ zfr (o + 3) (o + 36) r (r + 1) c (m_X4_find c ea o z y r) ∧ zG (m_X4_find c ea o z y r)) (fun _ => zH E b (m_X4_find c ea o z y r) w en ea)) args s 0 0 (zA b)) 7 b (zH E b c1 w en ea) 20 [(0, .ref (b + o)), (1, .int (nI z)), (2, .int (nI y)), (3, .ref (b + r)), (4, .int (nI (zsz c y))), (5, .int (nI i))] [] 0 0 := by
    intro K n
    induction n with
    | zero =>
      intro i c1 hF1 hg1 hib hi hE901 hK
      refine zv_iload (pc := 20) B 5 rfl dX4_find_20 ?_
      refine zv_iload_n (pc := 22) B 1 rfl dX4_find_22 ?_
      refine zv_icmp_ge (pc := 23) (tgt := 74) B dX4_find_23 rfl (fun _ => ?_) (fun h9 => absurd ((z_le (a := z) (b := i) rfl rfl (by omega) (by omega)).mpr (by omega)) h9)
      exact hK i c1 hF1 hg1 (by omega)  (Eq.trans (by rw [g1_X4_find]) hE901)
    | succ n ih =>
      intro i c1 hF1 hg1 hib hi hE901 hK
      refine zv_iload (pc := 20) B 5 rfl dX4_find_20 ?_
      refine zv_iload_n (pc := 22) B 1 rfl dX4_find_22 ?_
      refine zv_icmp_ge (pc := 23) (tgt := 74) B dX4_find_23 rfl (fun h2 => ?_) (fun h2 => ?_)
      · have nh2 : z ≤ i := (nI_leI (a := z) (b := i) (by omega) (by omega)).mp h2
        exact hK i c1 hF1 hg1 (by omega)  (Eq.trans (by rw [g1_X4_find, if_pos h2]) hE901)
      · have nh2 : ¬ z ≤ i := fun q9 => h2 ((nI_leI (a := z) (b := i) (by omega) (by omega)).mpr q9)
        refine zv_iload (pc := 26) B 4 rfl dX4_find_26 ?_
        refine zv_iload_n (pc := 28) B 1 rfl dX4_find_28 ?_
        refine zv_iload (pc := 29) B 5 rfl dX4_find_29 ?_
        refine zv_isub (pc := 31) B dX4_find_31 ?_
        refine zv_mmin (pc := 32) B wm_X4_64 ws_Math_min wn_Math wcode_Math_min (Nat.le_of_ble_eq_true rfl) (Nat.le_of_ble_eq_true rfl) (Nat.le_of_ble_eq_true rfl) (Nat.le_of_ble_eq_true rfl) dX4_find_32 ?_
        refine zv_topi (y := nI (min (zsz c y) (z - i))) (zsome hz (zsz_in c hy).2 (by omega)) ?_
        refine zv_istore (pc := 35) (L' := [(6, .int (nI (min (zsz c y) (z - i)))), (0, .ref (b + o)), (1, .int (nI z)), (2, .int (nI y)), (3, .ref (b + r)), (4, .int (nI (zsz c y))), (5, .int (nI i))]) B (by decide) rfl dX4_find_35 ?_
        refine zv_aload_n (pc := 37) B 1 rfl dX4_find_37 ?_
        refine zv_iload (pc := 38) B 0 rfl dX4_find_38 ?_
        refine zv_callV (pc := 40) (As := [.int (nI (min (zsz c y) (z - i)))]) (rest := []) B (k_X4_findBlock l E b _ _ _ _ ho (by omega) (by omega) hg1) (zcwV 1 3 B wm_X4_73 wi_X4_findBlock wv_X4_findBlock wn_X4 wcode_X4_findBlock rfl (by decide +kernel) ⟨(Nat.le_of_ble_eq_true rfl), (Nat.le_of_ble_eq_true rfl)⟩) rfl (zrecv B (zat (zTk.lt ho (k := 0) (by decide)) (zt_trk ho _ _ _)) cl4) zid rfl (Nat.le_of_ble_eq_true rfl) dX4_find_40 ⟨(Nat.le_of_ble_eq_true rfl), (Nat.le_of_ble_eq_true rfl)⟩ (fun v9 u9 hv9 => ?_)
        obtain ⟨rfl, hF2003, hg2003⟩ := hv9
        refine zv_st (st' := []) rfl ?_
        refine zv_aload_n (pc := 43) B 1 rfl dX4_find_43 ?_
        refine zv_get (pc := 44) (v := .ref (b + (o + 11))) B (zat (zTk.lt ho (k := 0) (by decide)) (zt_trk ho _ _ _)) cl4 inX4 2 (by decide) wf_X4_20 rfl dX4_find_44 ?_
        refine zv_aload_n (pc := 47) B 1 rfl dX4_find_47 ?_
        refine zv_get (pc := 48) (v := .ref (b + 1)) B (zat (zTk.lt ho (k := 0) (by decide)) (zt_trk ho _ _ _)) cl4 inX4 0 (by decide) wf_X4_36 rfl dX4_find_48 ?_
        refine zv_get (pc := 51) (v := .int ((m_X4_findBlock c1 ea o (min (zsz c y) (z - i))) 1 1)) B (zat (by decide) (z1 _ _ _)) cl0 inX0 1 (by decide) wf_X4_77 rfl dX4_find_51 ?_
        refine zv_topi (y := c 1 1) (by rw [hF2003 1 (by omega), hF1 1 (by omega)]) ?_
        refine zv_rald (pc := 54) (jj := (zn (c 1 1))) (q1 := b + (o + 12 + (zn (c 1 1)))) B (zat (ho.lt (by decide)) (zt_blk ho _ _ _)) (zn_eq (c 1 1)) hc33 (by decide) (if_pos hc33) dX4_find_54 ?_
        refine zv_iconst (pc := 55) (v := 0) B rfl dX4_find_55 ?_
        refine zv_aload_n (pc := 56) B 4 rfl dX4_find_56 ?_
        refine zv_iload (pc := 57) B 6 rfl dX4_find_57 ?_
        refine zv_iload (pc := 59) B 0 rfl dX4_find_59 ?_
        refine zv_st (st' := [.int (nI (min (zsz c y) (z - i))), .int (nI i), .ref (b + r), .int (nI 0), .ref (b + (o + 12 + (zn (c 1 1))))]) rfl ?_
        refine zs_copy (pc := 61) (i0 := o + 12 + (zn (c 1 1))) (i1 := r) (sp := 0) (dp := i) (nn := min (zsz c y) (z - i)) B wm_X4_54 wnat_System_arraycopy ws_System_arraycopy wn_System zid (by have h9 : zn (c 1 1) < 10 := hc33; have := zTk.lt ho (k := 12 + (zn (c 1 1))) (by omega); omega) (z_row_lt hrw) (z_row_e hrw) (fun x w e => zt_br ho hc33 x w e) (fun x w e => z_row hrw x w e) (by omega) (by omega) (by decide) (by decide) (Nat.le_of_ble_eq_true rfl) (Nat.le_of_ble_eq_true rfl) dX4_find_61 ?_
        refine zv_iload (pc := 64) B 6 rfl dX4_find_64 ?_
        refine zv_iload (pc := 66) B 5 rfl dX4_find_66 ?_
        refine zv_iadd (pc := 68) B dX4_find_68 ?_
        refine zv_topi (y := nI (i + zsz c y)) (nI_add _ _) ?_
        refine zv_istore (pc := 69) (L' := [(5, .int (nI (i + zsz c y))), (6, .int (nI (min (zsz c y) (z - i)))), (0, .ref (b + o)), (1, .int (nI z)), (2, .int (nI y)), (3, .ref (b + r)), (4, .int (nI (zsz c y)))]) B (by decide) rfl dX4_find_69 ?_
        refine zv_goto (pc := 71) (tgt := 20) B rfl dX4_find_71 ?_
        refine zv_loc (L' := [(0, .ref (b + o)), (1, .int (nI z)), (2, .int (nI y)), (3, .ref (b + r)), (4, .int (nI (zsz c y))), (5, .int (nI (i + zsz c y)))]) [2, 3, 4, 5, 6, 0] rfl ?_
        exact ih (i + zsz c y) (va_up (m_X4_findBlock c1 ea o (min (zsz c y) (z - i))) r (va_cpy ((m_X4_findBlock c1 ea o (min (zsz c y) (z - i))) (o + 12 + (zn (c 1 1)))) ((m_X4_findBlock c1 ea o (min (zsz c y) (z - i))) r) 0 i (min (zsz c y) (z - i)))) (zfr.upf (zfr.call hF1 hF2003 (by omega)) (by have h7 := hrw; omega)) (zG.upff hg2003 (by have h7 := hrw; unfold zfree; omega)) (by omega) (by omega) (Eq.trans (by rw [g1_X4_find, if_neg h2]) hE901) hK
  refine zv_loc (L' := [(0, .ref (b + o)), (1, .int (nI z)), (2, .int (nI y)), (3, .ref (b + r)), (4, .int (nI (zsz c y))), (5, .int 0)]) [2, 3, 4, 5, 1, 0] rfl ?_
  refine loop1 (fun i c1 => c1) z 0 c zfr.refl hg (by omega) (by omega) (by unfold m_X4_find; rfl) ?_
  intro i c1 hF1 hg1 hib
  intro (hE951 : c1 = m_X4_find c ea o z y r)
  have hE4 : c1 = m_X4_find c ea o z y r := hE951
  exact zv_vret (pc := 74) B hr (fun H hP => ⟨(), ⟨rfl, Eq.subst (motive := fun z => zfr (o + 3) (o + 36) r (r + 1) c z) hE4 hF1, Eq.subst (motive := fun z => zG z) hE4 hg1⟩, Eq.subst (motive := fun z => zH E b z w en ea H) hE4 hP⟩) (Nat.le_of_ble_eq_true rfl) (Nat.le_of_ble_eq_true rfl) dX4_find_74

def g1_X4_copyFrom (c : Nat → Nat → Int32) (en : Nat → Nat) (ea : Nat → Nat → Int32)  : Nat → Nat → (Nat → Nat → Int32) → (Nat → (Nat → Nat → Int32) → (Nat → Nat → Int32) × (Nat → Nat) × (Nat → Nat → Int32)) → (Nat → Nat → Int32) × (Nat → Nat) × (Nat → Nat → Int32)
  | 0, i, c1, K => K i c1
  | n + 1, i, c1, K => if (c 2 i) = 100 then (g1_X4_copyFrom c en ea n (i + 1) (va_up (zup (zup (zup c1 (70 + 22) i (c (34 + 22) i)) (70 + 23) i (c (34 + 23) i)) (70 + 35) i (c (34 + 35) i)) (70 + 25 + i) (va_cpy ((zup (zup (zup c1 (70 + 22) i (c (34 + 22) i)) (70 + 23) i (c (34 + 23) i)) (70 + 35) i (c (34 + 35) i)) (34 + 25 + i)) ((zup (zup (zup c1 (70 + 22) i (c (34 + 22) i)) (70 + 23) i (c (34 + 23) i)) (70 + 35) i (c (34 + 35) i)) (70 + 25 + i)) 0 0 60)) K) else (g1_X4_copyFrom c en ea n (i + 1) (zup (zup (zup c1 (70 + 22) i (c (34 + 22) i)) (70 + 23) i (c (34 + 23) i)) (70 + 35) i (c (34 + 35) i)) K)
def m_X4_copyFrom (c : Nat → Nat → Int32) (en : Nat → Nat) (ea : Nat → Nat → Int32) : (Nat → Nat → Int32) × (Nat → Nat) × (Nat → Nat → Int32) := g1_X4_copyFrom c en ea (zn (c 1 0)) 0 ((m_X1_copyFrom c en ea).1) (fun i c1 => (c1, (m_X1_copyFrom c en ea).2.1, (m_X1_copyFrom c en ea).2.2))
set_option maxRecDepth 100000 in
set_option maxHeartbeats 4000000 in
theorem k_X4_copyFrom (l : Launch) (E : zE) (b : Nat) (c : Nat → Nat → Int32) (w : Nat → Int64) (en : Nat → Nat) (ea : Nat → Nat → Int32)  (hg : zG c) : zM l yX4_copyFrom (.code yX4_copyFrom cX4_copyFrom 3 none :: zAll) (zRm 3 0 0) E b [.ref (b + 70), .ref (b + 34)] (zH E b c w en ea) (fun v9 (_ : Unit) => v9 = none ∧ zfr 70 106 70 70 c (m_X4_copyFrom c en ea).1 ∧ zG (m_X4_copyFrom c en ea).1) (fun _ => zH E b ((m_X4_copyFrom c en ea).1) w ((m_X4_copyFrom c en ea).2.1) ((m_X4_copyFrom c en ea).2.2)) 0 0 := by
  refine zM_of "ToneGraph$Track" (by decide) rfl rfl (Nat.le_of_ble_eq_true rfl) (L0 := [(0, .ref (b + 70)), (1, .ref (b + 34))]) rfl ?_
  intro p e s m args below meth c9 B hr hname
  have hcn : zn (c 1 0) ≤ 10 := hg 1 0
  refine zv_aload_n (pc := 0) B 0 rfl dX4_copyFrom_0 ?_
  refine zv_get (pc := 1) (v := .ref (b + (70 + 1))) B (zat (zTk.lt (Or.inr rfl) (k := 0) (by decide)) (zt_trk (Or.inr rfl) _ _ _)) cl4 inX4 1 (by decide) wf_X4_12 rfl dX4_copyFrom_1 ?_
  refine zv_aload_n (pc := 4) B 1 rfl dX4_copyFrom_4 ?_
  refine zv_get (pc := 5) (v := .ref (b + (34 + 1))) B (zat (zTk.lt (Or.inl rfl) (k := 0) (by decide)) (zt_trk (Or.inl rfl) _ _ _)) cl4 inX4 1 (by decide) wf_X4_12 rfl dX4_copyFrom_5 ?_
  refine zv_callV (pc := 8) (As := [.ref (b + (34 + 1))]) (rest := []) B (k_X1_copyFrom l E b _ _ _ _  hg) (zcwV 1 1 B wm_X4_40 wi_X1_copyFrom wv_X1_copyFrom wn_X1 wcode_X1_copyFrom rfl (by decide +kernel) ⟨(Nat.le_of_ble_eq_true rfl), (Nat.le_of_ble_eq_true rfl)⟩) rfl (zrecv B (zat (zTk.lt (Or.inr rfl) (by decide)) (zt_chr (Or.inr rfl) _ _ _)) cl1) zid rfl (Nat.le_of_ble_eq_true rfl) dX4_copyFrom_8 ⟨(Nat.le_of_ble_eq_true rfl), (Nat.le_of_ble_eq_true rfl)⟩ (fun v9 u9 hv9 => ?_)
  obtain ⟨rfl, hF2001, hg2001⟩ := hv9
  refine zv_st (st' := []) rfl ?_
  refine zv_iconst (pc := 11) (v := 0) B rfl dX4_copyFrom_11 ?_
  refine zv_istore_n (pc := 12) (L' := [(2, .int 0), (0, .ref (b + 70)), (1, .ref (b + 34))]) B (by decide) rfl dX4_copyFrom_12 ?_
  have loop1 : ∀ (K : Nat → (Nat → Nat → Int32) → (Nat → Nat → Int32) × (Nat → Nat) × (Nat → Nat → Int32)) (n : Nat) (i : Nat) (c1 : Nat → Nat → Int32), zfr 70 106 70 70 c c1 → zG c1 → i + n = zn (c 1 0) → g1_X4_copyFrom c en ea n i c1 K = m_X4_copyFrom c en ea → (∀ (i : Nat) (c1 : Nat → Nat → Int32), zfr 70 106 70 70 c c1 → zG c1 → i ≤ zn (c 1 0) → K i c1 = m_X4_copyFrom c en ea → zV p l e (zRm 3 0 0) s m args below meth c9 (MQ below (zQ b (fun v9 (_ : Unit) => v9 = none ∧ zfr 70 106 70 70 c (m_X4_copyFrom c en ea).1 ∧ zG (m_X4_copyFrom c en ea).1) (fun _ => zH E b ((m_X4_copyFrom c en ea).1) w ((m_X4_copyFrom c en ea).2.1) ((m_X4_copyFrom c en ea).2.2))) args s 0 0 (zA b)) 3 b (zH E b c1 w ((m_X1_copyFrom c en ea).2.1) ((m_X1_copyFrom c en ea).2.2)) 99 [(0, .ref (b + 70)), (1, .ref (b + 34)), (2, .int (nI i))] [] 0 0) → zV p l e (zRm 3 0 0) s m args below meth c9 (MQ below (zQ b (fun v9 (_ : Unit) => v9 = none ∧ zfr 70 106 70 70 c (m_X4_copyFrom c en ea).1 ∧ zG (m_X4_copyFrom c en ea).1) (fun _ => zH E b ((m_X4_copyFrom c en ea).1) w ((m_X4_copyFrom c en ea).2.1) ((m_X4_copyFrom c en ea).2.2))) args s 0 0 (zA b)) 3 b (zH E b c1 w ((m_X1_copyFrom c en ea).2.1) ((m_X1_copyFrom c en ea).2.2)) 13 [(0, .ref (b + 70)), (1, .ref (b + 34)), (2, .int (nI i))] [] 0 0 := by
    intro K n
    induction n with
    | zero =>
      intro i c1 hF1 hg1 hi hE901 hK
      refine zv_iload_n (pc := 13) B 2 rfl dX4_copyFrom_13 ?_
      refine zv_aload_n (pc := 14) B 0 rfl dX4_copyFrom_14 ?_
      refine zv_get (pc := 15) (v := .ref (b + 1)) B (zat (zTk.lt (Or.inr rfl) (k := 0) (by decide)) (zt_trk (Or.inr rfl) _ _ _)) cl4 inX4 0 (by decide) wf_X4_36 rfl dX4_copyFrom_15 ?_
      refine zv_get (pc := 18) (v := .int (c1 1 0)) B (zat (by decide) (z1 _ _ _)) cl0 inX0 0 (by decide) wf_X4_44 rfl dX4_copyFrom_18 ?_
      refine zv_topi (y := c 1 0) (by rw [hF1 1 (by omega)]) ?_
      refine zv_icmp_ge (pc := 21) (tgt := 99) B dX4_copyFrom_21 rfl (fun _ => ?_) (fun h9 => absurd ((z_le (a := (zn (c 1 0))) (b := i) (zn_eq (c 1 0)) rfl (by have h8 := (show zn _ ≤ 10 from hg 1 0); omega) (by have h8 := (show zn _ ≤ 10 from hg 1 0); omega)).mpr (by have h8 := (show zn _ ≤ 10 from hg 1 0); omega)) h9)
      exact hK i c1 hF1 hg1 (by omega) (Eq.trans (by rw [g1_X4_copyFrom]) hE901)
    | succ n ih =>
      intro i c1 hF1 hg1 hi hE901 hK
      refine zv_iload_n (pc := 13) B 2 rfl dX4_copyFrom_13 ?_
      refine zv_aload_n (pc := 14) B 0 rfl dX4_copyFrom_14 ?_
      refine zv_get (pc := 15) (v := .ref (b + 1)) B (zat (zTk.lt (Or.inr rfl) (k := 0) (by decide)) (zt_trk (Or.inr rfl) _ _ _)) cl4 inX4 0 (by decide) wf_X4_36 rfl dX4_copyFrom_15 ?_
      refine zv_get (pc := 18) (v := .int (c1 1 0)) B (zat (by decide) (z1 _ _ _)) cl0 inX0 0 (by decide) wf_X4_44 rfl dX4_copyFrom_18 ?_
      refine zv_topi (y := c 1 0) (by rw [hF1 1 (by omega)]) ?_
      refine zv_icmp_ge (pc := 21) (tgt := 99) B dX4_copyFrom_21 rfl (fun h9 => absurd h9 (fun q9 => absurd ((z_le (a := (zn (c 1 0))) (b := i) (zn_eq (c 1 0)) rfl (by have h8 := (show zn _ ≤ 10 from hg 1 0); omega) (by have h8 := (show zn _ ≤ 10 from hg 1 0); omega)).mp q9) (by have h8 := (show zn _ ≤ 10 from hg 1 0); omega))) (fun _ => ?_)
      refine zv_aload_n (pc := 24) B 0 rfl dX4_copyFrom_24 ?_
      refine zv_get (pc := 25) (v := .ref (b + (70 + 22))) B (zat (zTk.lt (Or.inr rfl) (k := 0) (by decide)) (zt_trk (Or.inr rfl) _ _ _)) cl4 inX4 3 (by decide) wf_X4_23 rfl dX4_copyFrom_25 ?_
      refine zv_iload_n (pc := 28) B 2 rfl dX4_copyFrom_28 ?_
      refine zv_aload_n (pc := 29) B 1 rfl dX4_copyFrom_29 ?_
      refine zv_get (pc := 30) (v := .ref (b + (34 + 22))) B (zat (zTk.lt (Or.inl rfl) (k := 0) (by decide)) (zt_trk (Or.inl rfl) _ _ _)) cl4 inX4 3 (by decide) wf_X4_23 rfl dX4_copyFrom_30 ?_
      refine zv_iload_n (pc := 33) B 2 rfl dX4_copyFrom_33 ?_
      refine zv_iald (pc := 34) (jj := i) B (zat (zTk.lt (Or.inl rfl) (by decide)) (zt_lat (Or.inl rfl) _ _ _)) rfl (by omega) (by decide) dX4_copyFrom_34 ?_
      refine zv_topi (y := c (34 + 22) i) (by rw [hF1 (34 + 22) (by omega)]) ?_
      refine zs_iast (pc := 35) (jj := i) B zid (zTk.lt (Or.inr rfl) (by decide)) (zt_lat_e (Or.inr rfl)) (fun x w e => zt_lat (Or.inr rfl) x w e) rfl (by omega) (by decide) dX4_copyFrom_35 ?_
      refine zv_aload_n (pc := 36) B 0 rfl dX4_copyFrom_36 ?_
      refine zv_get (pc := 37) (v := .ref (b + (70 + 23))) B (zat (zTk.lt (Or.inr rfl) (k := 0) (by decide)) (zt_trk (Or.inr rfl) _ _ _)) cl4 inX4 4 (by decide) wf_X4_27 rfl dX4_copyFrom_37 ?_
      refine zv_iload_n (pc := 40) B 2 rfl dX4_copyFrom_40 ?_
      refine zv_aload_n (pc := 41) B 1 rfl dX4_copyFrom_41 ?_
      refine zv_get (pc := 42) (v := .ref (b + (34 + 23))) B (zat (zTk.lt (Or.inl rfl) (k := 0) (by decide)) (zt_trk (Or.inl rfl) _ _ _)) cl4 inX4 4 (by decide) wf_X4_27 rfl dX4_copyFrom_42 ?_
      refine zv_iload_n (pc := 45) B 2 rfl dX4_copyFrom_45 ?_
      refine zv_iald (pc := 46) (jj := i) B (zat (zTk.lt (Or.inl rfl) (by decide)) (zt_inb (Or.inl rfl) _ _ _)) rfl (by omega) (by decide) dX4_copyFrom_46 ?_
      refine zv_topi (y := c (34 + 23) i) (by rw [zup_i (i := 70 + 22) (i' := 34 + 23) _ _ _ (by omega), hF1 (34 + 23) (by omega)]) ?_
      refine zs_iast (pc := 47) (jj := i) B zid (zTk.lt (Or.inr rfl) (by decide)) (zt_inb_e (Or.inr rfl)) (fun x w e => zt_inb (Or.inr rfl) x w e) rfl (by omega) (by decide) dX4_copyFrom_47 ?_
      refine zv_aload_n (pc := 48) B 0 rfl dX4_copyFrom_48 ?_
      refine zv_get (pc := 49) (v := .ref (b + (70 + 35))) B (zat (zTk.lt (Or.inr rfl) (k := 0) (by decide)) (zt_trk (Or.inr rfl) _ _ _)) cl4 inX4 6 (by decide) wf_X4_33 rfl dX4_copyFrom_49 ?_
      refine zv_iload_n (pc := 52) B 2 rfl dX4_copyFrom_52 ?_
      refine zv_aload_n (pc := 53) B 1 rfl dX4_copyFrom_53 ?_
      refine zv_get (pc := 54) (v := .ref (b + (34 + 35))) B (zat (zTk.lt (Or.inl rfl) (k := 0) (by decide)) (zt_trk (Or.inl rfl) _ _ _)) cl4 inX4 6 (by decide) wf_X4_33 rfl dX4_copyFrom_54 ?_
      refine zv_iload_n (pc := 57) B 2 rfl dX4_copyFrom_57 ?_
      refine zv_iald (pc := 58) (jj := i) B (zat (zTk.lt (Or.inl rfl) (by decide)) (zt_old (Or.inl rfl) _ _ _)) rfl (by omega) (by decide) dX4_copyFrom_58 ?_
      refine zv_topi (y := c (34 + 35) i) (by rw [zup_i (i := 70 + 23) (i' := 34 + 35) _ _ _ (by omega), zup_i (i := 70 + 22) (i' := 34 + 35) _ _ _ (by omega), hF1 (34 + 35) (by omega)]) ?_
      refine zs_iast (pc := 59) (jj := i) B zid (zTk.lt (Or.inr rfl) (by decide)) (zt_old_e (Or.inr rfl)) (fun x w e => zt_old (Or.inr rfl) x w e) rfl (by omega) (by decide) dX4_copyFrom_59 ?_
      refine zv_aload_n (pc := 60) B 0 rfl dX4_copyFrom_60 ?_
      refine zv_get (pc := 61) (v := .ref (b + 1)) B (zat (zTk.lt (Or.inr rfl) (k := 0) (by decide)) (zt_trk (Or.inr rfl) _ _ _)) cl4 inX4 0 (by decide) wf_X4_36 rfl dX4_copyFrom_61 ?_
      refine zv_get (pc := 64) (v := .ref (b + 2)) B (zat (by decide) (z1 _ _ _)) cl0 inX0 2 (by decide) wf_X4_50 rfl dX4_copyFrom_64 ?_
      refine zv_iload_n (pc := 67) B 2 rfl dX4_copyFrom_67 ?_
      refine zv_cald (pc := 68) (jj := i) B (zat (by decide) (z2 _ _ _)) rfl (by omega) (by decide) dX4_copyFrom_68 ?_
      refine zv_topi (y := c 2 i) (by rw [zup_i (i := 70 + 35) (i' := 2) _ _ _ (by omega), zup_i (i := 70 + 23) (i' := 2) _ _ _ (by omega), zup_i (i := 70 + 22) (i' := 2) _ _ _ (by omega), hF1 2 (by omega)]) ?_
      refine zv_bipush (pc := 69) (v := 100) B rfl dX4_copyFrom_69 ?_
      refine zv_icmp_ne (pc := 71) (tgt := 93) B dX4_copyFrom_71 rfl (fun h4 => ?_) (fun h4 => ?_)
      · refine zv_iinc (pc := 93) (v := nI (i + 1)) (L' := [(2, .int (nI (i + 1))), (0, .ref (b + 70)), (1, .ref (b + 34))]) B 2 rfl (nI_1 _) (by decide) rfl dX4_copyFrom_93 ?_
        refine zv_goto (pc := 96) (tgt := 13) B rfl dX4_copyFrom_96 ?_
        refine zv_loc (L' := [(0, .ref (b + 70)), (1, .ref (b + 34)), (2, .int (nI (i + 1)))]) [1, 2, 0] rfl ?_
        exact ih (i + 1) (zup (zup (zup c1 (70 + 22) i (c (34 + 22) i)) (70 + 23) i (c (34 + 23) i)) (70 + 35) i (c (34 + 35) i)) (zfr.up (zfr.up (zfr.up hF1 (by omega)) (by omega)) (by omega)) (zG.up (zG.free (zG.free hg1 (by unfold zfree; omega)) (by unfold zfree; omega)) (by rw [zBd_old (Or.inr rfl)]; exact (zG.old hg (Or.inl rfl) i))) (by omega) (Eq.trans (by rw [g1_X4_copyFrom, if_neg h4]) hE901) hK
      · refine zv_aload_n (pc := 74) B 1 rfl dX4_copyFrom_74 ?_
        refine zv_get (pc := 75) (v := .ref (b + (34 + 24))) B (zat (zTk.lt (Or.inl rfl) (k := 0) (by decide)) (zt_trk (Or.inl rfl) _ _ _)) cl4 inX4 5 (by decide) wf_X4_30 rfl dX4_copyFrom_75 ?_
        refine zv_iload_n (pc := 78) B 2 rfl dX4_copyFrom_78 ?_
        refine zv_rald (pc := 79) (jj := i) (q1 := b + (34 + 25 + i)) B (zat (zTk.lt (Or.inl rfl) (by decide)) (zt_kps (Or.inl rfl) _ _ _)) rfl (by omega) (by decide) (if_pos (by omega)) dX4_copyFrom_79 ?_
        refine zv_iconst (pc := 80) (v := 0) B rfl dX4_copyFrom_80 ?_
        refine zv_aload_n (pc := 81) B 0 rfl dX4_copyFrom_81 ?_
        refine zv_get (pc := 82) (v := .ref (b + (70 + 24))) B (zat (zTk.lt (Or.inr rfl) (k := 0) (by decide)) (zt_trk (Or.inr rfl) _ _ _)) cl4 inX4 5 (by decide) wf_X4_30 rfl dX4_copyFrom_82 ?_
        refine zv_iload_n (pc := 85) B 2 rfl dX4_copyFrom_85 ?_
        refine zv_rald (pc := 86) (jj := i) (q1 := b + (70 + 25 + i)) B (zat (zTk.lt (Or.inr rfl) (by decide)) (zt_kps (Or.inr rfl) _ _ _)) rfl (by omega) (by decide) (if_pos (by omega)) dX4_copyFrom_86 ?_
        refine zv_iconst (pc := 87) (v := 0) B rfl dX4_copyFrom_87 ?_
        refine zv_bipush (pc := 88) (v := 60) B rfl dX4_copyFrom_88 ?_
        refine zv_st (st' := [.int (nI 60), .int (nI 0), .ref (b + (70 + 25 + i)), .int (nI 0), .ref (b + (34 + 25 + i))]) rfl ?_
        refine zs_copy (pc := 90) (i0 := 34 + 25 + i) (i1 := 70 + 25 + i) (sp := 0) (dp := 0) (nn := 60) B wm_X4_54 wnat_System_arraycopy ws_System_arraycopy wn_System zid (by have h9 : i < 10 := (by omega); have := zTk.lt (Or.inl rfl) (k := 25 + i) (by omega); omega) (by have h9 : i < 10 := (by omega); have := zTk.lt (Or.inr rfl) (k := 25 + i) (by omega); omega) (zt_kp_e (Or.inr rfl) (by omega)) (fun x w e => zt_kp (Or.inl rfl) (by omega) x w e) (fun x w e => zt_kp (Or.inr rfl) (by omega) x w e) (by omega) (by omega) (by decide) (by decide) (Nat.le_of_ble_eq_true rfl) (Nat.le_of_ble_eq_true rfl) dX4_copyFrom_90 ?_
        refine zv_iinc (pc := 93) (v := nI (i + 1)) (L' := [(2, .int (nI (i + 1))), (0, .ref (b + 70)), (1, .ref (b + 34))]) B 2 rfl (nI_1 _) (by decide) rfl dX4_copyFrom_93 ?_
        refine zv_goto (pc := 96) (tgt := 13) B rfl dX4_copyFrom_96 ?_
        refine zv_loc (L' := [(0, .ref (b + 70)), (1, .ref (b + 34)), (2, .int (nI (i + 1)))]) [1, 2, 0] rfl ?_
        exact ih (i + 1) (va_up (zup (zup (zup c1 (70 + 22) i (c (34 + 22) i)) (70 + 23) i (c (34 + 23) i)) (70 + 35) i (c (34 + 35) i)) (70 + 25 + i) (va_cpy ((zup (zup (zup c1 (70 + 22) i (c (34 + 22) i)) (70 + 23) i (c (34 + 23) i)) (70 + 35) i (c (34 + 35) i)) (34 + 25 + i)) ((zup (zup (zup c1 (70 + 22) i (c (34 + 22) i)) (70 + 23) i (c (34 + 23) i)) (70 + 35) i (c (34 + 35) i)) (70 + 25 + i)) 0 0 60)) (zfr.upf (zfr.up (zfr.up (zfr.up hF1 (by omega)) (by omega)) (by omega)) (by have h8 : i < 10 := (by omega); omega)) (zG.upff (zG.up (zG.free (zG.free hg1 (by unfold zfree; omega)) (by unfold zfree; omega)) (by rw [zBd_old (Or.inr rfl)]; exact (zG.old hg (Or.inl rfl) i))) (by have h8 : i < 10 := (by omega); unfold zfree; omega)) (by omega) (Eq.trans (by rw [g1_X4_copyFrom, if_pos h4]) hE901) hK
  refine zv_loc (L' := [(0, .ref (b + 70)), (1, .ref (b + 34)), (2, .int 0)]) [1, 2, 0] rfl ?_
  refine loop1 (fun i c1 => (c1, (m_X1_copyFrom c en ea).2.1, (m_X1_copyFrom c en ea).2.2)) (zn (c 1 0)) 0 ((m_X1_copyFrom c en ea).1) (zfr.call zfr.refl hF2001 (by omega)) hg2001 (by omega) (by unfold m_X4_copyFrom; rfl) ?_
  intro i c1 hF1 hg1 hx
  intro (hE951 : (c1, (m_X1_copyFrom c en ea).2.1, (m_X1_copyFrom c en ea).2.2) = m_X4_copyFrom c en ea)
  have hE5 : (c1, (m_X1_copyFrom c en ea).2.1, (m_X1_copyFrom c en ea).2.2) = m_X4_copyFrom c en ea := hE951
  exact zv_vret (pc := 99) B hr (fun H hP => ⟨(), ⟨rfl, Eq.subst (motive := fun z => zfr 70 106 70 70 c z.1) hE5 hF1, Eq.subst (motive := fun z => zG z.1) hE5 hg1⟩, Eq.subst (motive := fun z => zH E b z.1 w z.2.1 z.2.2 H) hE5 hP⟩) (Nat.le_of_ble_eq_true rfl) (Nat.le_of_ble_eq_true rfl) dX4_copyFrom_99
