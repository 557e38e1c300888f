def g3_X7_samples (c : Nat → Nat → Int32)  : Nat → Nat → (Nat → Nat → Int32) → (Nat → (Nat → Nat → Int32) → Int32 × (Nat → Nat → Int32)) → Int32 × (Nat → Nat → Int32)
  | 0, k, c3, K => K k c3
  | n + 1, k, c3, K => if (c 114 k) = 2 then (g3_X7_samples c n (k + 1) (zup (zup c3 112 (0 + (60 * k) + zn (c3 112 (600 + k))) (r_X7_cut ((m_X7_inputOf c3 k) + (((c3 112 (630 + k)) * (c 116 k)) / 100)))) 112 (600 + k) (nI ((zn (c3 112 (600 + k)) + 1) % zn (c 115 k)))) K) else (g3_X7_samples c n (k + 1) c3 K)
def g2_X7_samples (c : Nat → Nat → Int32)  : Nat → Nat → (Nat → Nat → Int32) → (Nat → (Nat → Nat → Int32) → Int32 × (Nat → Nat → Int32)) → Int32 × (Nat → Nat → Int32)
  | 0, j, c2, K => K j c2
  | n + 1, j, c2, K => if (c 114 (zn (c 121 j))) = 2 then (g2_X7_samples c n (j + 1) c2 K) else (g2_X7_samples c n (j + 1) (zup ((m_X7_sounds c2 (zn (c 121 j))).2) 112 (630 + zn (c 121 j)) (r_X7_cut ((m_X7_sounds c2 (zn (c 121 j))).1))) K)
def g1_X7_samples (c : Nat → Nat → Int32)  : Nat → Nat → (Nat → Nat → Int32) → (Nat → (Nat → Nat → Int32) → Int32 × (Nat → Nat → Int32)) → Int32 × (Nat → Nat → Int32)
  | 0, i, c1, K => K i c1
  | n + 1, i, c1, K => if (c 114 i) = 2 then (g1_X7_samples c n (i + 1) (zup c1 112 (630 + i) (c1 112 (0 + (60 * i) + zn (c1 112 (600 + i))))) K) else (g1_X7_samples c n (i + 1) c1 K)
def m_X7_samples (c : Nat → Nat → Int32) : Int32 × (Nat → Nat → Int32) := g1_X7_samples c (zn (c 111 13)) 0 c (fun i c1 => g2_X7_samples c (zn (c 111 13)) 0 c1 (fun j c2 => g3_X7_samples c (zn (c 111 13)) 0 c2 (fun k c3 => (c3 112 (630 + zn (c 111 14)), c3))))
set_option maxRecDepth 100000 in
set_option maxHeartbeats 400000 in
theorem k_X7_samples (l : Launch) (E : zE) (b : Nat) (c : Nat → Nat → Int32) (w : Nat → Int64) (en : Nat → Nat) (ea : Nat → Nat → Int32) {T : Nat} (hT : T + 44 < 2 ^ 30) (hL : zLv T (c 112)) (hD : ∀ k, k < 10 → c 114 k = 2 → 1 ≤ zn (c 115 k) ∧ zn (c 115 k) ≤ 60) (hg : zG c) : zM l yX7_samples (.code yX7_samples cX7_samples 2 (some .int) :: zAll) (zRm 7 0 0) E b [.ref (b + 111)] (zH E b c w en ea) (fun v9 (_ : Unit) => v9 = some (.int (m_X7_samples c).1) ∧ zfr 112 113 112 112 c (m_X7_samples c).2 ∧ zG (m_X7_samples c).2 ∧ zLv (T + 44) ((m_X7_samples c).2 112)) (fun _ => zH E b ((m_X7_samples c).2) w en ea) 0 0 := by
  refine zM_of "ToneGraphModel" (by decide) rfl rfl (Nat.le_of_ble_eq_true rfl) (L0 := [(0, .ref (b + 111))]) rfl ?_
  intro p e s m args below meth c9 B hr hname
  have hcn : zn (c 111 13) ≤ 10 := hg 111 13
  refine zv_iconst (pc := 0) (v := 0) B rfl dX7_samples_0 ?_
  refine zv_istore_n (pc := 1) (L' := [(1, .int 0), (0, .ref (b + 111))]) B (by decide) rfl dX7_samples_1 ?_
  have loop1 : ∀ (K : Nat → (Nat → Nat → Int32) → Int32 × (Nat → Nat → Int32)) (n : Nat) (i : Nat) (c1 : Nat → Nat → Int32), zfr 112 113 112 112 c c1 → zG c1 → zLv T (c1 112) → i + n = zn (c 111 13) → g1_X7_samples c n i c1 K = m_X7_samples c → (∀ (i : Nat) (c1 : Nat → Nat → Int32), zfr 112 113 112 112 c c1 → zG c1 → zLv T (c1 112) → i ≤ zn (c 111 13) → K i c1 = m_X7_samples c → zV p l e (zRm 7 0 0) s m args below meth c9 (MQ below (zQ b (fun v9 (_ : Unit) => v9 = some (.int (m_X7_samples c).1) ∧ zfr 112 113 112 112 c (m_X7_samples c).2 ∧ zG (m_X7_samples c).2 ∧ zLv (T + 44) ((m_X7_samples c).2 112)) (fun _ => zH E b ((m_X7_samples c).2) w en ea)) args s 0 0 (zA b)) 2 b (zH E b c1 w en ea) 58 [(0, .ref (b + 111)), (1, .int (nI i))] [] 0 0) → zV p l e (zRm 7 0 0) s m args below meth c9 (MQ below (zQ b (fun v9 (_ : Unit) => v9 = some (.int (m_X7_samples c).1) ∧ zfr 112 113 112 112 c (m_X7_samples c).2 ∧ zG (m_X7_samples c).2 ∧ zLv (T + 44) ((m_X7_samples c).2 112)) (fun _ => zH E b ((m_X7_samples c).2) w en ea)) args s 0 0 (zA b)) 2 b (zH E b c1 w en ea) 2 [(0, .ref (b + 111)), (1, .int (nI i))] [] 0 0 := by
    intro K n
    induction n with
    | zero =>
      intro i c1 hF1 hg1 hL8 hi hE901 hK
      refine zv_iload_n (pc := 2) B 1 rfl dX7_samples_2 ?_
      refine zv_aload_n (pc := 3) B 0 rfl dX7_samples_3 ?_
      refine zv_get (pc := 4) (v := .int (c1 111 13)) B (zat (by decide) (z111 _ _ _)) cl7 inX7 13 (by decide) wf_X7_51 rfl dX7_samples_4 ?_
      refine zv_topi (y := c 111 13) (by rw [hF1 111 (by omega)]) ?_
      refine zv_icmp_ge (pc := 7) (tgt := 58) B dX7_samples_7 rfl (fun _ => ?_) (fun h9 => absurd ((z_le (a := (zn (c 111 13))) (b := i) (zn_eq (c 111 13)) rfl (by have h8 := (show zn _ ≤ 10 from hg 111 13); omega) (by have h8 := (show zn _ ≤ 10 from hg 111 13); omega)).mpr (by have h8 := (show zn _ ≤ 10 from hg 111 13); omega)) h9)
      exact hK i c1 hF1 hg1 hL8 (by omega) (Eq.trans (by rw [g1_X7_samples]) hE901)
    | succ n ih =>
      intro i c1 hF1 hg1 hL8 hi hE901 hK
      have hp9 := hg1.pl (k := i) (by omega)
      refine zv_iload_n (pc := 2) B 1 rfl dX7_samples_2 ?_
      refine zv_aload_n (pc := 3) B 0 rfl dX7_samples_3 ?_
      refine zv_get (pc := 4) (v := .int (c1 111 13)) B (zat (by decide) (z111 _ _ _)) cl7 inX7 13 (by decide) wf_X7_51 rfl dX7_samples_4 ?_
      refine zv_topi (y := c 111 13) (by rw [hF1 111 (by omega)]) ?_
      refine zv_icmp_ge (pc := 7) (tgt := 58) B dX7_samples_7 rfl (fun h9 => absurd h9 (fun q9 => absurd ((z_le (a := (zn (c 111 13))) (b := i) (zn_eq (c 111 13)) rfl (by have h8 := (show zn _ ≤ 10 from hg 111 13); omega) (by have h8 := (show zn _ ≤ 10 from hg 111 13); omega)).mp q9) (by have h8 := (show zn _ ≤ 10 from hg 111 13); omega))) (fun _ => ?_)
      refine zv_aload_n (pc := 10) B 0 rfl dX7_samples_10 ?_
      refine zv_get (pc := 11) (v := .ref (b + 114)) B (zat (by decide) (z111 _ _ _)) cl7 inX7 2 (by decide) wf_X7_16 rfl dX7_samples_11 ?_
      refine zv_iload_n (pc := 14) B 1 rfl dX7_samples_14 ?_
      refine zv_iald (pc := 15) (jj := i) B (zat (by decide) (z114 _ _ _)) rfl (by omega) (by decide) dX7_samples_15 ?_
      refine zv_topi (y := c 114 i) (by rw [hF1 114 (by omega)]) ?_
      refine zv_iconst (pc := 16) (v := 2) B rfl dX7_samples_16 ?_
      refine zv_icmp_ne (pc := 17) (tgt := 52) B dX7_samples_17 rfl (fun h3 => ?_) (fun h3 => ?_)
      · refine zv_iinc (pc := 52) (v := nI (i + 1)) (L' := [(1, .int (nI (i + 1))), (0, .ref (b + 111))]) B 1 rfl (nI_1 _) (by decide) rfl dX7_samples_52 ?_
        refine zv_goto (pc := 55) (tgt := 2) B rfl dX7_samples_55 ?_
        refine zv_loc (L' := [(0, .ref (b + 111)), (1, .int (nI (i + 1)))]) [1, 0] rfl ?_
        exact ih (i + 1) c1 hF1 hg1 hL8 (by omega) (Eq.trans (by rw [g1_X7_samples, if_neg h3]) hE901) hK
      · refine zv_aload_n (pc := 20) B 0 rfl dX7_samples_20 ?_
        refine zv_get (pc := 21) (v := .ref (b + 112)) B (zat (by decide) (z111 _ _ _)) cl7 inX7 0 (by decide) wf_X7_7 rfl dX7_samples_21 ?_
        refine zv_sipush (pc := 24) (v := 630) B rfl dX7_samples_24 ?_
        refine zv_iload_n (pc := 27) B 1 rfl dX7_samples_27 ?_
        refine zv_iadd (pc := 28) B dX7_samples_28 ?_
        refine zv_topi (y := nI (630 + i)) (nI_add 630 i) ?_
        refine zv_aload_n (pc := 29) B 0 rfl dX7_samples_29 ?_
        refine zv_get (pc := 30) (v := .ref (b + 112)) B (zat (by decide) (z111 _ _ _)) cl7 inX7 0 (by decide) wf_X7_7 rfl dX7_samples_30 ?_
        refine zv_iconst (pc := 33) (v := 0) B rfl dX7_samples_33 ?_
        refine zv_bipush (pc := 34) (v := 60) B rfl dX7_samples_34 ?_
        refine zv_iload_n (pc := 36) B 1 rfl dX7_samples_36 ?_
        refine zv_imul (pc := 37) B dX7_samples_37 ?_
        refine zv_topi (y := nI (60 * i)) (pk_mul 60 i) ?_
        refine zv_iadd (pc := 38) B dX7_samples_38 ?_
        refine zv_topi (y := nI (0 + (60 * i))) (nI_add 0 (60 * i)) ?_
        refine zv_aload_n (pc := 39) B 0 rfl dX7_samples_39 ?_
        refine zv_get (pc := 40) (v := .ref (b + 112)) B (zat (by decide) (z111 _ _ _)) cl7 inX7 0 (by decide) wf_X7_7 rfl dX7_samples_40 ?_
        refine zv_sipush (pc := 43) (v := 600) B rfl dX7_samples_43 ?_
        refine zv_iload_n (pc := 46) B 1 rfl dX7_samples_46 ?_
        refine zv_iadd (pc := 47) B dX7_samples_47 ?_
        refine zv_topi (y := nI (600 + i)) (nI_add 600 i) ?_
        refine zv_iald (pc := 48) (jj := (600 + i)) B (zat (by decide) (z112 _ _ _)) rfl (by omega) (by decide) dX7_samples_48 ?_
        refine zv_iadd (pc := 49) B dX7_samples_49 ?_
        refine zv_topi (y := nI (0 + (60 * i) + zn (c1 112 (600 + i)))) (zadl rfl) ?_
        refine zv_iald (pc := 50) (jj := (0 + (60 * i) + zn (c1 112 (600 + i)))) B (zat (by decide) (z112 _ _ _)) rfl (by omega) (by decide) dX7_samples_50 ?_
        refine zs_iast (pc := 51) (jj := (630 + i)) B zid (by decide) rfl (fun x w e => z112 x w e) rfl (by omega) (by decide) dX7_samples_51 ?_
        refine zv_iinc (pc := 52) (v := nI (i + 1)) (L' := [(1, .int (nI (i + 1))), (0, .ref (b + 111))]) B 1 rfl (nI_1 _) (by decide) rfl dX7_samples_52 ?_
        refine zv_goto (pc := 55) (tgt := 2) B rfl dX7_samples_55 ?_
        refine zv_loc (L' := [(0, .ref (b + 111)), (1, .int (nI (i + 1)))]) [1, 0] rfl ?_
        exact ih (i + 1) (zup c1 112 (630 + i) (c1 112 (0 + (60 * i) + zn (c1 112 (600 + i))))) (zfr.up hF1 (by omega)) (zG.npl hg1 (by omega)) (hL8.npl _ (by omega)) (by omega) (Eq.trans (by rw [g1_X7_samples, if_pos h3]) hE901) hK
  refine zv_loc (L' := [(0, .ref (b + 111)), (1, .int 0)]) [1, 0] rfl ?_
  refine loop1 (fun i c1 => g2_X7_samples c (zn (c 111 13)) 0 c1 (fun j c2 => g3_X7_samples c (zn (c 111 13)) 0 c2 (fun k c3 => (c3 112 (630 + zn (c 111 14)), c3)))) (zn (c 111 13)) 0 c zfr.refl hg hL (by omega) (by unfold m_X7_samples; rfl) ?_
  intro i c1 hF1 hg1 hL8 hx
  intro (hE951 : g2_X7_samples c (zn (c 111 13)) 0 c1 (fun j c2 => g3_X7_samples c (zn (c 111 13)) 0 c2 (fun k c3 => (c3 112 (630 + zn (c 111 14)), c3))) = m_X7_samples c)
  refine zv_iconst (pc := 58) (v := 0) B rfl dX7_samples_58 ?_
  refine zv_istore_n (pc := 59) (L' := [(1, .int 0), (0, .ref (b + 111))]) B (by decide) rfl dX7_samples_59 ?_
  have loop2 : ∀ (K : Nat → (Nat → Nat → Int32) → Int32 × (Nat → Nat → Int32)) (n : Nat) (j : Nat) (c2 : Nat → Nat → Int32), zfr 112 113 112 112 c c2 → zG c2 → zLv (T + 4 * j) (c2 112) → j + n = zn (c 111 13) → g2_X7_samples c n j c2 K = m_X7_samples c → (∀ (j : Nat) (c2 : Nat → Nat → Int32), zfr 112 113 112 112 c c2 → zG c2 → zLv (T + 4 * j) (c2 112) → j ≤ zn (c 111 13) → K j c2 = m_X7_samples c → zV p l e (zRm 7 0 0) s m args below meth c9 (MQ below (zQ b (fun v9 (_ : Unit) => v9 = some (.int (m_X7_samples c).1) ∧ zfr 112 113 112 112 c (m_X7_samples c).2 ∧ zG (m_X7_samples c).2 ∧ zLv (T + 44) ((m_X7_samples c).2 112)) (fun _ => zH E b ((m_X7_samples c).2) w en ea)) args s 0 0 (zA b)) 2 b (zH E b c2 w en ea) 117 [(0, .ref (b + 111)), (1, .int (nI j))] [] 0 0) → zV p l e (zRm 7 0 0) s m args below meth c9 (MQ below (zQ b (fun v9 (_ : Unit) => v9 = some (.int (m_X7_samples c).1) ∧ zfr 112 113 112 112 c (m_X7_samples c).2 ∧ zG (m_X7_samples c).2 ∧ zLv (T + 44) ((m_X7_samples c).2 112)) (fun _ => zH E b ((m_X7_samples c).2) w en ea)) args s 0 0 (zA b)) 2 b (zH E b c2 w en ea) 60 [(0, .ref (b + 111)), (1, .int (nI j))] [] 0 0 := by
    intro K n
    induction n with
    | zero =>
      intro j c2 hF2 hg2 hL9 hi hE902 hK
      refine zv_iload_n (pc := 60) B 1 rfl dX7_samples_60 ?_
      refine zv_aload_n (pc := 61) B 0 rfl dX7_samples_61 ?_
      refine zv_get (pc := 62) (v := .int (c2 111 13)) B (zat (by decide) (z111 _ _ _)) cl7 inX7 13 (by decide) wf_X7_51 rfl dX7_samples_62 ?_
      refine zv_topi (y := c 111 13) (by rw [hF2 111 (by omega)]) ?_
      refine zv_icmp_ge (pc := 65) (tgt := 117) B dX7_samples_65 rfl (fun _ => ?_) (fun h9 => absurd ((z_le (a := (zn (c 111 13))) (b := j) (zn_eq (c 111 13)) rfl (by have h8 := (show zn _ ≤ 10 from hg 111 13); omega) (by have h8 := (show zn _ ≤ 10 from hg 111 13); omega)).mpr (by have h8 := (show zn _ ≤ 10 from hg 111 13); omega)) h9)
      exact hK j c2 hF2 hg2 hL9 (by omega) (Eq.trans (by rw [g2_X7_samples]) hE902)
    | succ n ih =>
      intro j c2 hF2 hg2 hL9 hi hE902 hK
      have ho9 : zn (c 121 j) ≤ 9 := hg 121 j
      refine zv_iload_n (pc := 60) B 1 rfl dX7_samples_60 ?_
      refine zv_aload_n (pc := 61) B 0 rfl dX7_samples_61 ?_
      refine zv_get (pc := 62) (v := .int (c2 111 13)) B (zat (by decide) (z111 _ _ _)) cl7 inX7 13 (by decide) wf_X7_51 rfl dX7_samples_62 ?_
      refine zv_topi (y := c 111 13) (by rw [hF2 111 (by omega)]) ?_
      refine zv_icmp_ge (pc := 65) (tgt := 117) B dX7_samples_65 rfl (fun h9 => absurd h9 (fun q9 => absurd ((z_le (a := (zn (c 111 13))) (b := j) (zn_eq (c 111 13)) rfl (by have h8 := (show zn _ ≤ 10 from hg 111 13); omega) (by have h8 := (show zn _ ≤ 10 from hg 111 13); omega)).mp q9) (by have h8 := (show zn _ ≤ 10 from hg 111 13); omega))) (fun _ => ?_)
      refine zv_aload_n (pc := 68) B 0 rfl dX7_samples_68 ?_
      refine zv_get (pc := 69) (v := .ref (b + 114)) B (zat (by decide) (z111 _ _ _)) cl7 inX7 2 (by decide) wf_X7_16 rfl dX7_samples_69 ?_
      refine zv_aload_n (pc := 72) B 0 rfl dX7_samples_72 ?_
      refine zv_get (pc := 73) (v := .ref (b + 121)) B (zat (by decide) (z111 _ _ _)) cl7 inX7 9 (by decide) wf_X7_37 rfl dX7_samples_73 ?_
      refine zv_iload_n (pc := 76) B 1 rfl dX7_samples_76 ?_
      refine zv_iald (pc := 77) (jj := j) B (zat (by decide) (z121 _ _ _)) rfl (by omega) (by decide) dX7_samples_77 ?_
      refine zv_topi (y := c 121 j) (by rw [hF2 121 (by omega)]) ?_
      refine zv_iald (pc := 78) (jj := (zn (c 121 j))) B (zat (by decide) (z114 _ _ _)) (zn_eq (c 121 j)) (by have h8 := (show zn _ ≤ 9 from hg 121 j); omega) (by decide) dX7_samples_78 ?_
      refine zv_topi (y := c 114 (zn (c 121 j))) (by rw [hF2 114 (by omega)]) ?_
      refine zv_iconst (pc := 79) (v := 2) B rfl dX7_samples_79 ?_
      refine zv_icmp_eq (pc := 80) (tgt := 111) B dX7_samples_80 rfl (fun h6 => ?_) (fun h6 => ?_)
      · refine zv_iinc (pc := 111) (v := nI (j + 1)) (L' := [(1, .int (nI (j + 1))), (0, .ref (b + 111))]) B 1 rfl (nI_1 _) (by decide) rfl dX7_samples_111 ?_
        refine zv_goto (pc := 114) (tgt := 60) B rfl dX7_samples_114 ?_
        refine zv_loc (L' := [(0, .ref (b + 111)), (1, .int (nI (j + 1)))]) [1, 0] rfl ?_
        exact ih (j + 1) c2 hF2 hg2 (hL9.mono (by omega)) (by omega) (Eq.trans (by rw [g2_X7_samples, if_pos h6]) hE902) hK
      · refine zv_aload_n (pc := 83) B 0 rfl dX7_samples_83 ?_
        refine zv_get (pc := 84) (v := .ref (b + 112)) B (zat (by decide) (z111 _ _ _)) cl7 inX7 0 (by decide) wf_X7_7 rfl dX7_samples_84 ?_
        refine zv_sipush (pc := 87) (v := 630) B rfl dX7_samples_87 ?_
        refine zv_aload_n (pc := 90) B 0 rfl dX7_samples_90 ?_
        refine zv_get (pc := 91) (v := .ref (b + 121)) B (zat (by decide) (z111 _ _ _)) cl7 inX7 9 (by decide) wf_X7_37 rfl dX7_samples_91 ?_
        refine zv_iload_n (pc := 94) B 1 rfl dX7_samples_94 ?_
        refine zv_iald (pc := 95) (jj := j) B (zat (by decide) (z121 _ _ _)) rfl (by omega) (by decide) dX7_samples_95 ?_
        refine zv_topi (y := c 121 j) (by rw [hF2 121 (by omega)]) ?_
        refine zv_iadd (pc := 96) B dX7_samples_96 ?_
        refine zv_topi (y := nI (630 + zn (c 121 j))) (zadl rfl) ?_
        refine zv_aload_n (pc := 97) B 0 rfl dX7_samples_97 ?_
        refine zv_aload_n (pc := 98) B 0 rfl dX7_samples_98 ?_
        refine zv_get (pc := 99) (v := .ref (b + 121)) B (zat (by decide) (z111 _ _ _)) cl7 inX7 9 (by decide) wf_X7_37 rfl dX7_samples_99 ?_
        refine zv_iload_n (pc := 102) B 1 rfl dX7_samples_102 ?_
        refine zv_iald (pc := 103) (jj := j) B (zat (by decide) (z121 _ _ _)) rfl (by omega) (by decide) dX7_samples_103 ?_
        refine zv_topi (y := c 121 j) (by rw [hF2 121 (by omega)]) ?_
        refine zv_st (st' := [.int (nI (zn (c 121 j))), .ref (b + 111), .int (nI (630 + zn (c 121 j))), .ref (b + 112)]) (by rw [← zn_eq (c 121 j)]) ?_
        refine zv_callV (pc := 104) (As := [.int (nI (zn (c 121 j)))]) (rest := [.int (nI (630 + zn (c 121 j))), .ref (b + 112)]) B (k_X7_sounds l E b _ _ _ _  (by have h8 := (show zn _ ≤ 9 from hg 121 j); omega) (by omega) hL9 hg2) (zcwV 1 6 B wm_X7_198 wi_X7_sounds wv_X7_sounds wn_X7 wcode_X7_sounds rfl (by decide +kernel) ⟨(Nat.le_of_ble_eq_true rfl), (Nat.le_of_ble_eq_true rfl)⟩) rfl (zrecv B (zat (by decide) (z111 _ _ _)) cl7) zid rfl (Nat.le_of_ble_eq_true rfl) dX7_samples_104 ⟨(Nat.le_of_ble_eq_true rfl), (Nat.le_of_ble_eq_true rfl)⟩ (fun v9 u9 hv9 => ?_)
        obtain ⟨rfl, hF2007, hg2007⟩ := hv9
        refine zv_st (st' := [.int ((m_X7_sounds c2 (zn (c 121 j))).1), .int (nI (630 + zn (c 121 j))), .ref (b + 112)]) rfl ?_
        refine zv_callS (pc := 107) (As := [.int ((m_X7_sounds c2 (zn (c 121 j))).1)]) (rest := [.int (nI (630 + zn (c 121 j))), .ref (b + 112)]) B (k_X7_cut l E b ((m_X7_sounds c2 (zn (c 121 j))).1)) (zcwS 1 0 B wm_X7_183 ws_X7_cut wn_X7 wcode_X7_cut (by decide +kernel) ⟨(Nat.le_of_ble_eq_true rfl), (Nat.le_of_ble_eq_true rfl)⟩) rfl zid rfl (Nat.le_of_ble_eq_true rfl) dX7_samples_107 ⟨(Nat.le_of_ble_eq_true rfl), (Nat.le_of_ble_eq_true rfl)⟩ (fun v9 u9 hv9 => ?_)
        subst hv9
        refine zv_st (st' := [.int (r_X7_cut ((m_X7_sounds c2 (zn (c 121 j))).1)), .int (nI (630 + zn (c 121 j))), .ref (b + 112)]) rfl ?_
        refine zs_iast (pc := 110) (jj := (630 + zn (c 121 j))) B zid (by decide) rfl (fun x w e => z112 x w e) rfl (by omega) (by decide) dX7_samples_110 ?_
        refine zv_iinc (pc := 111) (v := nI (j + 1)) (L' := [(1, .int (nI (j + 1))), (0, .ref (b + 111))]) B 1 rfl (nI_1 _) (by decide) rfl dX7_samples_111 ?_
        refine zv_goto (pc := 114) (tgt := 60) B rfl dX7_samples_114 ?_
        refine zv_loc (L' := [(0, .ref (b + 111)), (1, .int (nI (j + 1)))]) [1, 0] rfl ?_
        exact ih (j + 1) (zup ((m_X7_sounds c2 (zn (c 121 j))).2) 112 (630 + zn (c 121 j)) (r_X7_cut ((m_X7_sounds c2 (zn (c 121 j))).1))) (zfr.up (zfr.call hF2 hF2007 (by omega)) (by omega)) (zG.npl hg2007 (by omega)) (((hL9.sounds (by omega) (by omega)).npl _ (by omega)).mono (by omega)) (by omega) (Eq.trans (by rw [g2_X7_samples, if_neg h6]) hE902) hK
  refine zv_loc (L' := [(0, .ref (b + 111)), (1, .int 0)]) [1, 0] rfl ?_
  refine loop2 (fun j c2 => g3_X7_samples c (zn (c 111 13)) 0 c2 (fun k c3 => (c3 112 (630 + zn (c 111 14)), c3))) (zn (c 111 13)) 0 c1 hF1 hg1 (hL8.mono (by omega)) (by omega) hE951 ?_
  intro j c2 hF2 hg2 hL9 hx
  intro (hE952 : g3_X7_samples c (zn (c 111 13)) 0 c2 (fun k c3 => (c3 112 (630 + zn (c 111 14)), c3)) = m_X7_samples c)
  refine zv_iconst (pc := 117) (v := 0) B rfl dX7_samples_117 ?_
  refine zv_istore_n (pc := 118) (L' := [(1, .int 0), (0, .ref (b + 111))]) B (by decide) rfl dX7_samples_118 ?_
  have loop3 : ∀ (K : Nat → (Nat → Nat → Int32) → Int32 × (Nat → Nat → Int32)) (n : Nat) (k : Nat) (c3 : Nat → Nat → Int32), zfr 112 113 112 112 c c3 → zG c3 → zLv (T + 40) (c3 112) → k + n = zn (c 111 13) → g3_X7_samples c n k c3 K = m_X7_samples c → (∀ (k : Nat) (c3 : Nat → Nat → Int32), zfr 112 113 112 112 c c3 → zG c3 → zLv (T + 40) (c3 112) → k ≤ zn (c 111 13) → K k c3 = m_X7_samples c → zV p l e (zRm 7 0 0) s m args below meth c9 (MQ below (zQ b (fun v9 (_ : Unit) => v9 = some (.int (m_X7_samples c).1) ∧ zfr 112 113 112 112 c (m_X7_samples c).2 ∧ zG (m_X7_samples c).2 ∧ zLv (T + 44) ((m_X7_samples c).2 112)) (fun _ => zH E b ((m_X7_samples c).2) w en ea)) args s 0 0 (zA b)) 2 b (zH E b c3 w en ea) 226 [(0, .ref (b + 111)), (1, .int (nI k))] [] 0 0) → zV p l e (zRm 7 0 0) s m args below meth c9 (MQ below (zQ b (fun v9 (_ : Unit) => v9 = some (.int (m_X7_samples c).1) ∧ zfr 112 113 112 112 c (m_X7_samples c).2 ∧ zG (m_X7_samples c).2 ∧ zLv (T + 44) ((m_X7_samples c).2 112)) (fun _ => zH E b ((m_X7_samples c).2) w en ea)) args s 0 0 (zA b)) 2 b (zH E b c3 w en ea) 119 [(0, .ref (b + 111)), (1, .int (nI k))] [] 0 0 := by
    intro K n
    induction n with
    | zero =>
      intro k c3 hF3 hg3 hL7 hi hE903 hK
      refine zv_iload_n (pc := 119) B 1 rfl dX7_samples_119 ?_
      refine zv_aload_n (pc := 120) B 0 rfl dX7_samples_120 ?_
      refine zv_get (pc := 121) (v := .int (c3 111 13)) B (zat (by decide) (z111 _ _ _)) cl7 inX7 13 (by decide) wf_X7_51 rfl dX7_samples_121 ?_
      refine zv_topi (y := c 111 13) (by rw [hF3 111 (by omega)]) ?_
      refine zv_icmp_ge (pc := 124) (tgt := 226) B dX7_samples_124 rfl (fun _ => ?_) (fun h9 => absurd ((z_le (a := (zn (c 111 13))) (b := k) (zn_eq (c 111 13)) rfl (by have h8 := (show zn _ ≤ 10 from hg 111 13); omega) (by have h8 := (show zn _ ≤ 10 from hg 111 13); omega)).mpr (by have h8 := (show zn _ ≤ 10 from hg 111 13); omega)) h9)
      exact hK k c3 hF3 hg3 hL7 (by omega) (Eq.trans (by rw [g3_X7_samples]) hE903)
    | succ n ih =>
      intro k c3 hF3 hg3 hL7 hi hE903 hK
      have hp9 := hg3.pl (k := k) (by omega)
      refine zv_iload_n (pc := 119) B 1 rfl dX7_samples_119 ?_
      refine zv_aload_n (pc := 120) B 0 rfl dX7_samples_120 ?_
      refine zv_get (pc := 121) (v := .int (c3 111 13)) B (zat (by decide) (z111 _ _ _)) cl7 inX7 13 (by decide) wf_X7_51 rfl dX7_samples_121 ?_
      refine zv_topi (y := c 111 13) (by rw [hF3 111 (by omega)]) ?_
      refine zv_icmp_ge (pc := 124) (tgt := 226) B dX7_samples_124 rfl (fun h9 => absurd h9 (fun q9 => absurd ((z_le (a := (zn (c 111 13))) (b := k) (zn_eq (c 111 13)) rfl (by have h8 := (show zn _ ≤ 10 from hg 111 13); omega) (by have h8 := (show zn _ ≤ 10 from hg 111 13); omega)).mp q9) (by have h8 := (show zn _ ≤ 10 from hg 111 13); omega))) (fun _ => ?_)
      refine zv_aload_n (pc := 127) B 0 rfl dX7_samples_127 ?_
      refine zv_get (pc := 128) (v := .ref (b + 114)) B (zat (by decide) (z111 _ _ _)) cl7 inX7 2 (by decide) wf_X7_16 rfl dX7_samples_128 ?_
      refine zv_iload_n (pc := 131) B 1 rfl dX7_samples_131 ?_
      refine zv_iald (pc := 132) (jj := k) B (zat (by decide) (z114 _ _ _)) rfl (by omega) (by decide) dX7_samples_132 ?_
      refine zv_topi (y := c 114 k) (by rw [hF3 114 (by omega)]) ?_
      refine zv_iconst (pc := 133) (v := 2) B rfl dX7_samples_133 ?_
      refine zv_icmp_eq (pc := 134) (tgt := 140) B dX7_samples_134 rfl (fun h10 => ?_) (fun h10 => ?_)
      · refine zv_aload_n (pc := 140) B 0 rfl dX7_samples_140 ?_
        refine zv_get (pc := 141) (v := .ref (b + 112)) B (zat (by decide) (z111 _ _ _)) cl7 inX7 0 (by decide) wf_X7_7 rfl dX7_samples_141 ?_
        refine zv_iconst (pc := 144) (v := 0) B rfl dX7_samples_144 ?_
        refine zv_bipush (pc := 145) (v := 60) B rfl dX7_samples_145 ?_
        refine zv_iload_n (pc := 147) B 1 rfl dX7_samples_147 ?_
        refine zv_imul (pc := 148) B dX7_samples_148 ?_
        refine zv_topi (y := nI (60 * k)) (pk_mul 60 k) ?_
        refine zv_iadd (pc := 149) B dX7_samples_149 ?_
        refine zv_topi (y := nI (0 + (60 * k))) (nI_add 0 (60 * k)) ?_
        refine zv_aload_n (pc := 150) B 0 rfl dX7_samples_150 ?_
        refine zv_get (pc := 151) (v := .ref (b + 112)) B (zat (by decide) (z111 _ _ _)) cl7 inX7 0 (by decide) wf_X7_7 rfl dX7_samples_151 ?_
        refine zv_sipush (pc := 154) (v := 600) B rfl dX7_samples_154 ?_
        refine zv_iload_n (pc := 157) B 1 rfl dX7_samples_157 ?_
        refine zv_iadd (pc := 158) B dX7_samples_158 ?_
        refine zv_topi (y := nI (600 + k)) (nI_add 600 k) ?_
        refine zv_iald (pc := 159) (jj := (600 + k)) B (zat (by decide) (z112 _ _ _)) rfl (by omega) (by decide) dX7_samples_159 ?_
        refine zv_iadd (pc := 160) B dX7_samples_160 ?_
        refine zv_topi (y := nI (0 + (60 * k) + zn (c3 112 (600 + k)))) (zadl rfl) ?_
        refine zv_aload_n (pc := 161) B 0 rfl dX7_samples_161 ?_
        refine zv_iload_n (pc := 162) B 1 rfl dX7_samples_162 ?_
        refine zv_callV (pc := 163) (As := [.int (nI k)]) (rest := [.int (nI (0 + (60 * k) + zn (c3 112 (600 + k)))), .ref (b + 112)]) B (k_X7_inputOf l E b _ _ _ _  (by omega) hg3) (zcwV 1 0 B wm_X7_180 wi_X7_inputOf wv_X7_inputOf wn_X7 wcode_X7_inputOf rfl (by decide +kernel) ⟨(Nat.le_of_ble_eq_true rfl), (Nat.le_of_ble_eq_true rfl)⟩) rfl (zrecv B (zat (by decide) (z111 _ _ _)) cl7) zid rfl (Nat.le_of_ble_eq_true rfl) dX7_samples_163 ⟨(Nat.le_of_ble_eq_true rfl), (Nat.le_of_ble_eq_true rfl)⟩ (fun v9 u9 hv9 => ?_)
        subst hv9
        refine zv_st (st' := [.int (m_X7_inputOf c3 k), .int (nI (0 + (60 * k) + zn (c3 112 (600 + k)))), .ref (b + 112)]) rfl ?_
        refine zv_aload_n (pc := 166) B 0 rfl dX7_samples_166 ?_
        refine zv_get (pc := 167) (v := .ref (b + 112)) B (zat (by decide) (z111 _ _ _)) cl7 inX7 0 (by decide) wf_X7_7 rfl dX7_samples_167 ?_
        refine zv_sipush (pc := 170) (v := 630) B rfl dX7_samples_170 ?_
        refine zv_iload_n (pc := 173) B 1 rfl dX7_samples_173 ?_
        refine zv_iadd (pc := 174) B dX7_samples_174 ?_
        refine zv_topi (y := nI (630 + k)) (nI_add 630 k) ?_
        refine zv_iald (pc := 175) (jj := (630 + k)) B (zat (by decide) (z112 _ _ _)) rfl (by omega) (by decide) dX7_samples_175 ?_
        refine zv_aload_n (pc := 176) B 0 rfl dX7_samples_176 ?_
        refine zv_get (pc := 177) (v := .ref (b + 116)) B (zat (by decide) (z111 _ _ _)) cl7 inX7 4 (by decide) wf_X7_22 rfl dX7_samples_177 ?_
        refine zv_iload_n (pc := 180) B 1 rfl dX7_samples_180 ?_
        refine zv_iald (pc := 181) (jj := k) B (zat (by decide) (z116 _ _ _)) rfl (by omega) (by decide) dX7_samples_181 ?_
        refine zv_topi (y := c 116 k) (by rw [hF3 116 (by omega)]) ?_
        refine zv_imul (pc := 182) B dX7_samples_182 ?_
        refine zv_bipush (pc := 183) (v := 100) B rfl dX7_samples_183 ?_
        refine zv_idiv (pc := 185) B (by decide) dX7_samples_185 ?_
        refine zv_iadd (pc := 186) B dX7_samples_186 ?_
        refine zv_callS (pc := 187) (As := [.int ((m_X7_inputOf c3 k) + (((c3 112 (630 + k)) * (c 116 k)) / 100))]) (rest := [.int (nI (0 + (60 * k) + zn (c3 112 (600 + k)))), .ref (b + 112)]) B (k_X7_cut l E b ((m_X7_inputOf c3 k) + (((c3 112 (630 + k)) * (c 116 k)) / 100))) (zcwS 1 0 B wm_X7_183 ws_X7_cut wn_X7 wcode_X7_cut (by decide +kernel) ⟨(Nat.le_of_ble_eq_true rfl), (Nat.le_of_ble_eq_true rfl)⟩) rfl zid rfl (Nat.le_of_ble_eq_true rfl) dX7_samples_187 ⟨(Nat.le_of_ble_eq_true rfl), (Nat.le_of_ble_eq_true rfl)⟩ (fun v9 u9 hv9 => ?_)
        subst hv9
        refine zv_st (st' := [.int (r_X7_cut ((m_X7_inputOf c3 k) + (((c3 112 (630 + k)) * (c 116 k)) / 100))), .int (nI (0 + (60 * k) + zn (c3 112 (600 + k)))), .ref (b + 112)]) rfl ?_
        refine zs_iast (pc := 190) (jj := (0 + (60 * k) + zn (c3 112 (600 + k)))) B zid (by decide) rfl (fun x w e => z112 x w e) rfl (by omega) (by decide) dX7_samples_190 ?_
        refine zv_aload_n (pc := 191) B 0 rfl dX7_samples_191 ?_
        refine zv_get (pc := 192) (v := .ref (b + 112)) B (zat (by decide) (z111 _ _ _)) cl7 inX7 0 (by decide) wf_X7_7 rfl dX7_samples_192 ?_
        refine zv_sipush (pc := 195) (v := 600) B rfl dX7_samples_195 ?_
        refine zv_iload_n (pc := 198) B 1 rfl dX7_samples_198 ?_
        refine zv_iadd (pc := 199) B dX7_samples_199 ?_
        refine zv_topi (y := nI (600 + k)) (nI_add 600 k) ?_
        refine zv_aload_n (pc := 200) B 0 rfl dX7_samples_200 ?_
        refine zv_get (pc := 201) (v := .ref (b + 112)) B (zat (by decide) (z111 _ _ _)) cl7 inX7 0 (by decide) wf_X7_7 rfl dX7_samples_201 ?_
        refine zv_sipush (pc := 204) (v := 600) B rfl dX7_samples_204 ?_
        refine zv_iload_n (pc := 207) B 1 rfl dX7_samples_207 ?_
        refine zv_iadd (pc := 208) B dX7_samples_208 ?_
        refine zv_topi (y := nI (600 + k)) (nI_add 600 k) ?_
        refine zv_iald (pc := 209) (jj := (600 + k)) B (zat (by decide) (z112 _ _ _)) rfl (by omega) (by decide) dX7_samples_209 ?_
        refine zv_topi (y := c3 112 (600 + k)) (by rw [zup_k (k := 0 + (60 * k) + zn (c3 112 (600 + k))) (k' := 600 + k) _ _ (by omega)]) ?_
        refine zv_iconst (pc := 210) (v := 1) B rfl dX7_samples_210 ?_
        refine zv_iadd (pc := 211) B dX7_samples_211 ?_
        refine zv_topi (y := nI (zn (c3 112 (600 + k)) + 1)) ((by rw [← nI_1, ← zn_eq])) ?_
        refine zv_aload_n (pc := 212) B 0 rfl dX7_samples_212 ?_
        refine zv_get (pc := 213) (v := .ref (b + 115)) B (zat (by decide) (z111 _ _ _)) cl7 inX7 3 (by decide) wf_X7_19 rfl dX7_samples_213 ?_
        refine zv_iload_n (pc := 216) B 1 rfl dX7_samples_216 ?_
        refine zv_iald (pc := 217) (jj := k) B (zat (by decide) (z115 _ _ _)) rfl (by omega) (by decide) dX7_samples_217 ?_
        refine zv_topi (y := c 115 k) (by rw [zup_i (i := 112) (i' := 115) _ _ _ (by decide), hF3 115 (by omega)]) ?_
        have hd9 := hD k (by omega) h10
        have hm9 : (zn (c3 112 (600 + k)) + 1) % zn (c 115 k) < zn (c 115 k) := Nat.mod_lt _ hd9.1
        refine zv_irem (pc := 218) B (fun q => by rw [q] at hd9; exact absurd hd9.1 (by decide)) dX7_samples_218 ?_
        refine zv_topi (y := nI ((zn (c3 112 (600 + k)) + 1) % zn (c 115 k))) (zrem (by omega) hd9.1 (by omega)) ?_
        refine zs_iast (pc := 219) (jj := (600 + k)) B zid (by decide) rfl (fun x w e => z112 x w e) rfl (by omega) (by decide) dX7_samples_219 ?_
        refine zv_iinc (pc := 220) (v := nI (k + 1)) (L' := [(1, .int (nI (k + 1))), (0, .ref (b + 111))]) B 1 rfl (nI_1 _) (by decide) rfl dX7_samples_220 ?_
        refine zv_goto (pc := 223) (tgt := 119) B rfl dX7_samples_223 ?_
        refine zv_loc (L' := [(0, .ref (b + 111)), (1, .int (nI (k + 1)))]) [1, 0] rfl ?_
        exact ih (k + 1) (zup (zup c3 112 (0 + (60 * k) + zn (c3 112 (600 + k))) (r_X7_cut ((m_X7_inputOf c3 k) + (((c3 112 (630 + k)) * (c 116 k)) / 100)))) 112 (600 + k) (nI ((zn (c3 112 (600 + k)) + 1) % zn (c 115 k)))) (zfr.up (zfr.up hF3 (by omega)) (by omega)) (zG.up (zG.npl hg3 (by omega)) (by rw [zBd_pl (by omega)]; exact (show zn _ ≤ 59 by rw [zn_nI (by omega)]; omega))) ((hL7.npl _ (by omega)).npl _ (by omega)) (by omega) (Eq.trans (by rw [g3_X7_samples, if_pos h10]) hE903) hK
      · refine zv_goto (pc := 137) (tgt := 220) B rfl dX7_samples_137 ?_
        refine zv_iinc (pc := 220) (v := nI (k + 1)) (L' := [(1, .int (nI (k + 1))), (0, .ref (b + 111))]) B 1 rfl (nI_1 _) (by decide) rfl dX7_samples_220 ?_
        refine zv_goto (pc := 223) (tgt := 119) B rfl dX7_samples_223 ?_
        refine zv_loc (L' := [(0, .ref (b + 111)), (1, .int (nI (k + 1)))]) [1, 0] rfl ?_
        exact ih (k + 1) c3 hF3 hg3 hL7 (by omega) (Eq.trans (by rw [g3_X7_samples, if_neg h10]) hE903) hK
  refine zv_loc (L' := [(0, .ref (b + 111)), (1, .int 0)]) [1, 0] rfl ?_
  refine loop3 (fun k c3 => (c3 112 (630 + zn (c 111 14)), c3)) (zn (c 111 13)) 0 c2 hF2 hg2 (hL9.mono (by omega)) (by omega) hE952 ?_
  intro k c3 hF3 hg3 hL7 hx
  intro (hE953 : (c3 112 (630 + zn (c 111 14)), c3) = m_X7_samples c)
  have hout9 : zn (c 111 14) ≤ 9 := hg 111 14
  refine zv_aload_n (pc := 226) B 0 rfl dX7_samples_226 ?_
  refine zv_get (pc := 227) (v := .ref (b + 112)) B (zat (by decide) (z111 _ _ _)) cl7 inX7 0 (by decide) wf_X7_7 rfl dX7_samples_227 ?_
  refine zv_sipush (pc := 230) (v := 630) B rfl dX7_samples_230 ?_
  refine zv_aload_n (pc := 233) B 0 rfl dX7_samples_233 ?_
  refine zv_get (pc := 234) (v := .int (c3 111 14)) B (zat (by decide) (z111 _ _ _)) cl7 inX7 14 (by decide) wf_X7_54 rfl dX7_samples_234 ?_
  refine zv_topi (y := c 111 14) (by rw [hF3 111 (by omega)]) ?_
  refine zv_iadd (pc := 237) B dX7_samples_237 ?_
  refine zv_topi (y := nI (630 + zn (c 111 14))) (zadl rfl) ?_
  refine zv_iald (pc := 238) (jj := (630 + zn (c 111 14))) B (zat (by decide) (z112 _ _ _)) rfl (by omega) (by decide) dX7_samples_238 ?_
  have hE11 : (c3 112 (630 + zn (c 111 14)), c3) = m_X7_samples c := hE953
  exact zv_iret (pc := 239) B (c3 112 (630 + zn (c 111 14))) hr (fun H hP => ⟨(), ⟨(by rw [(zp2 hE11).1]), (by rw [(zp2 hE11).2]; exact hF3), (by rw [(zp2 hE11).2]; exact hg3), (by rw [(zp2 hE11).2]; exact (hL7.mono (by omega)))⟩, (by rw [(zp2 hE11).2]; exact hP)⟩) (Nat.le_of_ble_eq_true rfl) (Nat.le_of_ble_eq_true rfl) dX7_samples_239
