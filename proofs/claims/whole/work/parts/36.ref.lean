def g3_X7_lays (c : Nat → Nat → Int32) (c2 : Nat → Nat → Int32) : Nat → Nat → (Nat → (Nat → Nat → Int32)) → (Nat → Nat → Int32)
  | 0, k, K => K k
  | n + 1, k, K => if (m_X7_canCome c2 k) = 0 then (g3_X7_lays c c2 n (k + 1) K) else (K k)
def g2_X7_lays (c : Nat → Nat → Int32)  : Nat → Nat → (Nat → Nat → Int32) → (Nat → (Nat → Nat → Int32) → (Nat → Nat → Int32)) → (Nat → Nat → Int32)
  | 0, j, c2, K => K j c2
  | n + 1, j, c2, K => g3_X7_lays c c2 9 0 (fun k => g2_X7_lays c n (j + 1) (zup (zup c2 123 k 1) 121 j (nI k)) K)
def g1_X7_lays (c : Nat → Nat → Int32)  : Nat → Nat → (Nat → Nat → Int32) → (Nat → (Nat → Nat → Int32) → (Nat → Nat → Int32)) → (Nat → Nat → Int32)
  | 0, i, c1, K => K i c1
  | n + 1, i, c1, K => g1_X7_lays c n (i + 1) (zup c1 123 i 0) K
def m_X7_lays (c : Nat → Nat → Int32) : (Nat → Nat → Int32) := g1_X7_lays c 10 0 c (fun i c1 => g2_X7_lays c (zn (c 111 13)) 0 c1 (fun j c2 => c2))
set_option maxRecDepth 100000 in
set_option maxHeartbeats 400000 in
theorem k_X7_lays (l : Launch) (E : zE) (b : Nat) (c : Nat → Nat → Int32) (w : Nat → Int64) (en : Nat → Nat) (ea : Nat → Nat → Int32) (hA : zAc c (zn (c 111 13))) (hg : zG c) : zM l yX7_lays (.code yX7_lays cX7_lays 3 none :: zAll) (zRm 1 0 0) E b [.ref (b + 111)] (zH E b c w en ea) (fun v9 (_ : Unit) => v9 = none ∧ zfr 121 122 123 124 c (m_X7_lays c) ∧ zG (m_X7_lays c)) (fun _ => zH E b (m_X7_lays c) w en ea) 0 0 := by
  refine zM_of "ToneGraphModel" (by decide) rfl rfl (Nat.le_of_ble_eq_true rfl) (L0 := [(0, .ref (b + 111))]) rfl ?_
  intro p e s m args below meth c9 B hr hname
  have hcn : zn (c 111 13) ≤ 10 := hg 111 13
  refine zv_iconst (pc := 0) (v := 0) B rfl dX7_lays_0 ?_
  refine zv_istore_n (pc := 1) (L' := [(1, .int 0), (0, .ref (b + 111))]) B (by decide) rfl dX7_lays_1 ?_
  have loop1 : ∀ (K : Nat → (Nat → Nat → Int32) → (Nat → Nat → Int32)) (n : Nat) (i : Nat) (c1 : Nat → Nat → Int32), zfr 121 122 123 124 c c1 → zG c1 → (∀ q, q < i → c1 123 q = 0) → i + n = 10 → g1_X7_lays c n i c1 K = m_X7_lays c → (∀ (i : Nat) (c1 : Nat → Nat → Int32), zfr 121 122 123 124 c c1 → zG c1 → (∀ q, q < i → c1 123 q = 0) → i = 10 → K i c1 = m_X7_lays c → zV p l e (zRm 1 0 0) s m args below meth c9 (MQ below (zQ b (fun v9 (_ : Unit) => v9 = none ∧ zfr 121 122 123 124 c (m_X7_lays c) ∧ zG (m_X7_lays c)) (fun _ => zH E b (m_X7_lays c) w en ea)) args s 0 0 (zA b)) 3 b (zH E b c1 w en ea) 21 [(0, .ref (b + 111)), (1, .int (nI i))] [] 0 0) → zV p l e (zRm 1 0 0) s m args below meth c9 (MQ below (zQ b (fun v9 (_ : Unit) => v9 = none ∧ zfr 121 122 123 124 c (m_X7_lays c) ∧ zG (m_X7_lays c)) (fun _ => zH E b (m_X7_lays c) w en ea)) args s 0 0 (zA b)) 3 b (zH E b c1 w en ea) 2 [(0, .ref (b + 111)), (1, .int (nI i))] [] 0 0 := by
    intro K n
    induction n with
    | zero =>
      intro i c1 hF1 hg1 h1y hi hE901 hK
      refine zv_iload_n (pc := 2) B 1 rfl dX7_lays_2 ?_
      refine zv_bipush (pc := 3) (v := 10) B rfl dX7_lays_3 ?_
      refine zv_icmp_ge (pc := 5) (tgt := 21) B dX7_lays_5 rfl (fun _ => ?_) (fun h9 => absurd ((z_le (a := 10) (b := i) rfl rfl (by omega) (by omega)).mpr (by omega)) h9)
      exact hK i c1 hF1 hg1 h1y (by omega) (Eq.trans (by rw [g1_X7_lays]) hE901)
    | succ n ih =>
      intro i c1 hF1 hg1 h1y hi hE901 hK
      refine zv_iload_n (pc := 2) B 1 rfl dX7_lays_2 ?_
      refine zv_bipush (pc := 3) (v := 10) B rfl dX7_lays_3 ?_
      refine zv_icmp_ge (pc := 5) (tgt := 21) B dX7_lays_5 rfl (fun h9 => absurd h9 (fun q9 => absurd ((z_le (a := 10) (b := i) rfl rfl (by omega) (by omega)).mp q9) (by omega))) (fun _ => ?_)
      refine zv_aload_n (pc := 8) B 0 rfl dX7_lays_8 ?_
      refine zv_get (pc := 9) (v := .ref (b + 123)) B (zat (by decide) (z111 _ _ _)) cl7 inX7 11 (by decide) wf_X7_43 rfl dX7_lays_9 ?_
      refine zv_iload_n (pc := 12) B 1 rfl dX7_lays_12 ?_
      refine zv_iconst (pc := 13) (v := 0) B rfl dX7_lays_13 ?_
      refine zs_zast (pc := 14) (jj := i) B zid (by decide) rfl (fun x w e => z123 x w e) rfl (by omega) (by decide) rfl dX7_lays_14 ?_
      refine zv_iinc (pc := 15) (v := nI (i + 1)) (L' := [(1, .int (nI (i + 1))), (0, .ref (b + 111))]) B 1 rfl (nI_1 _) (by decide) rfl dX7_lays_15 ?_
      refine zv_goto (pc := 18) (tgt := 2) B rfl dX7_lays_18 ?_
      refine zv_loc (L' := [(0, .ref (b + 111)), (1, .int (nI (i + 1)))]) [1, 0] rfl ?_
      exact ih (i + 1) (zup c1 123 i 0) (zfr.up hF1 (by omega)) (zG.up hg1 (show zn _ ≤ 1 from (show zn _ ≤ 1 by decide))) (fun q hq => by rw [zup_at]; by_cases e : q = i; (· subst e; rw [if_pos ⟨rfl, rfl⟩]); (· rw [if_neg (fun z => e z.2)]; exact h1y q (by omega))) (by omega) (Eq.trans (by rw [g1_X7_lays]) hE901) hK
  refine zv_loc (L' := [(0, .ref (b + 111)), (1, .int 0)]) [1, 0] rfl ?_
  refine loop1 (fun i c1 => g2_X7_lays c (zn (c 111 13)) 0 c1 (fun j c2 => c2)) 10 0 c zfr.refl hg (fun q hq => absurd hq (Nat.not_lt_zero q)) (by omega) (by unfold m_X7_lays; rfl) ?_
  intro i c1 hF1 hg1 h1y hx
  intro (hE951 : g2_X7_lays c (zn (c 111 13)) 0 c1 (fun j c2 => c2) = m_X7_lays c)
  refine zv_iconst (pc := 21) (v := 0) B rfl dX7_lays_21 ?_
  refine zv_istore_n (pc := 22) (L' := [(1, .int 0), (0, .ref (b + 111))]) B (by decide) rfl dX7_lays_22 ?_
  have loop2 : ∀ (K : Nat → (Nat → Nat → Int32) → (Nat → Nat → Int32)) (n : Nat) (j : Nat) (c2 : Nat → Nat → Int32), zfr 121 122 123 124 c c2 → zG c2 → zct (c2 123) (zn (c 111 13)) ≤ j → j + n = zn (c 111 13) → g2_X7_lays c n j c2 K = m_X7_lays c → (∀ (j : Nat) (c2 : Nat → Nat → Int32), zfr 121 122 123 124 c c2 → zG c2 → zct (c2 123) (zn (c 111 13)) ≤ j → j ≤ zn (c 111 13) → K j c2 = m_X7_lays c → zV p l e (zRm 1 0 0) s m args below meth c9 (MQ below (zQ b (fun v9 (_ : Unit) => v9 = none ∧ zfr 121 122 123 124 c (m_X7_lays c) ∧ zG (m_X7_lays c)) (fun _ => zH E b (m_X7_lays c) w en ea)) args s 0 0 (zA b)) 3 b (zH E b c2 w en ea) 67 [(0, .ref (b + 111)), (1, .int (nI j))] [] 0 0) → zV p l e (zRm 1 0 0) s m args below meth c9 (MQ below (zQ b (fun v9 (_ : Unit) => v9 = none ∧ zfr 121 122 123 124 c (m_X7_lays c) ∧ zG (m_X7_lays c)) (fun _ => zH E b (m_X7_lays c) w en ea)) args s 0 0 (zA b)) 3 b (zH E b c2 w en ea) 23 [(0, .ref (b + 111)), (1, .int (nI j))] [] 0 0 := by
    intro K n
    induction n with
    | zero =>
      intro j c2 hF2 hg2 hct hi hE902 hK
      refine zv_iload_n (pc := 23) B 1 rfl dX7_lays_23 ?_
      refine zv_aload_n (pc := 24) B 0 rfl dX7_lays_24 ?_
      refine zv_get (pc := 25) (v := .int (c2 111 13)) B (zat (by decide) (z111 _ _ _)) cl7 inX7 13 (by decide) wf_X7_51 rfl dX7_lays_25 ?_
      refine zv_topi (y := c 111 13) (by rw [hF2 111 (by omega)]) ?_
      refine zv_icmp_ge (pc := 28) (tgt := 67) B dX7_lays_28 rfl (fun _ => ?_) (fun h9 => absurd ((z_le (a := (zn (c 111 13))) (b := j) (zn_eq (c 111 13)) rfl (by have h8 := (show zn _ ≤ 10 from hg 111 13); omega) (by have h8 := (show zn _ ≤ 10 from hg 111 13); omega)).mpr (by have h8 := (show zn _ ≤ 10 from hg 111 13); omega)) h9)
      exact hK j c2 hF2 hg2 hct (by omega) (Eq.trans (by rw [g2_X7_lays]) hE902)
    | succ n ih =>
      intro j c2 hF2 hg2 hct hi hE902 hK
      refine zv_iload_n (pc := 23) B 1 rfl dX7_lays_23 ?_
      refine zv_aload_n (pc := 24) B 0 rfl dX7_lays_24 ?_
      refine zv_get (pc := 25) (v := .int (c2 111 13)) B (zat (by decide) (z111 _ _ _)) cl7 inX7 13 (by decide) wf_X7_51 rfl dX7_lays_25 ?_
      refine zv_topi (y := c 111 13) (by rw [hF2 111 (by omega)]) ?_
      refine zv_icmp_ge (pc := 28) (tgt := 67) B dX7_lays_28 rfl (fun h9 => absurd h9 (fun q9 => absurd ((z_le (a := (zn (c 111 13))) (b := j) (zn_eq (c 111 13)) rfl (by have h8 := (show zn _ ≤ 10 from hg 111 13); omega) (by have h8 := (show zn _ ≤ 10 from hg 111 13); omega)).mp q9) (by have h8 := (show zn _ ≤ 10 from hg 111 13); omega))) (fun _ => ?_)
      refine zv_iconst (pc := 31) (v := 0) B rfl dX7_lays_31 ?_
      refine zv_istore_n (pc := 32) (L' := [(2, .int 0), (0, .ref (b + 111)), (1, .int (nI j))]) B (by decide) rfl dX7_lays_32 ?_
      have loop3 : ∀ (K : Nat → (Nat → Nat → Int32)) (n : Nat) (k : Nat), (∃ q, q < zn (c 111 13) ∧ k ≤ q ∧ ¬ m_X7_canCome c2 q = 0) → k + n = 9 → g3_X7_lays c c2 n k K = m_X7_lays c → (∀ (k : Nat), (∃ q, q < zn (c 111 13) ∧ k ≤ q ∧ ¬ m_X7_canCome c2 q = 0) → k < 10 → K k = m_X7_lays c → zV p l e (zRm 1 0 0) s m args below meth c9 (MQ below (zQ b (fun v9 (_ : Unit) => v9 = none ∧ zfr 121 122 123 124 c (m_X7_lays c) ∧ zG (m_X7_lays c)) (fun _ => zH E b (m_X7_lays c) w en ea)) args s 0 0 (zA b)) 3 b (zH E b c2 w en ea) 47 [(0, .ref (b + 111)), (1, .int (nI j)), (2, .int (nI k))] [] 0 0) → zV p l e (zRm 1 0 0) s m args below meth c9 (MQ below (zQ b (fun v9 (_ : Unit) => v9 = none ∧ zfr 121 122 123 124 c (m_X7_lays c) ∧ zG (m_X7_lays c)) (fun _ => zH E b (m_X7_lays c) w en ea)) args s 0 0 (zA b)) 3 b (zH E b c2 w en ea) 33 [(0, .ref (b + 111)), (1, .int (nI j)), (2, .int (nI k))] [] 0 0 := by
        intro K n
        induction n with
        | zero =>
          intro k hJ hi hE903 hK
          refine zv_aload_n (pc := 33) B 0 rfl dX7_lays_33 ?_
          refine zv_iload_n (pc := 34) B 2 rfl dX7_lays_34 ?_
          refine zv_callV (pc := 35) (As := [.int (nI k)]) (rest := []) B (k_X7_canCome l E b _ _ _ _  (by omega) hg2) (zcwV 1 0 B wm_X7_118 wi_X7_canCome wv_X7_canCome wn_X7 wcode_X7_canCome rfl (by decide +kernel) ⟨(Nat.le_of_ble_eq_true rfl), (Nat.le_of_ble_eq_true rfl)⟩) rfl (zrecv B (zat (by decide) (z111 _ _ _)) cl7) zid rfl (Nat.le_of_ble_eq_true rfl) dX7_lays_35 ⟨(Nat.le_of_ble_eq_true rfl), (Nat.le_of_ble_eq_true rfl)⟩ (fun v9 u9 hv9 => ?_)
          subst hv9
          refine zv_st (st' := [.int (m_X7_canCome c2 k)]) rfl ?_
          refine zv_if_ne (pc := 38) (tgt := 47) B dX7_lays_38 rfl (fun _ => ?_) (fun h9 => absurd h9 (by obtain ⟨q, h1q, h2q, h3q⟩ := hJ; have e : q = k := (by omega); rw [← e]; exact h3q))
          exact hK k hJ (by omega) (Eq.trans (by rw [g3_X7_lays]) hE903)
        | succ n ih =>
          intro k hJ hi hE903 hK
          refine zv_aload_n (pc := 33) B 0 rfl dX7_lays_33 ?_
          refine zv_iload_n (pc := 34) B 2 rfl dX7_lays_34 ?_
          refine zv_callV (pc := 35) (As := [.int (nI k)]) (rest := []) B (k_X7_canCome l E b _ _ _ _  (by omega) hg2) (zcwV 1 0 B wm_X7_118 wi_X7_canCome wv_X7_canCome wn_X7 wcode_X7_canCome rfl (by decide +kernel) ⟨(Nat.le_of_ble_eq_true rfl), (Nat.le_of_ble_eq_true rfl)⟩) rfl (zrecv B (zat (by decide) (z111 _ _ _)) cl7) zid rfl (Nat.le_of_ble_eq_true rfl) dX7_lays_35 ⟨(Nat.le_of_ble_eq_true rfl), (Nat.le_of_ble_eq_true rfl)⟩ (fun v9 u9 hv9 => ?_)
          subst hv9
          refine zv_st (st' := [.int (m_X7_canCome c2 k)]) rfl ?_
          refine zv_if_ne (pc := 38) (tgt := 47) B dX7_lays_38 rfl (fun h6 => ?_) (fun h6 => ?_)
          · exact hK k hJ (by omega) (Eq.trans (by rw [g3_X7_lays, if_neg h6]) hE903)
          · refine zv_iinc (pc := 41) (v := nI (k + 1)) (L' := [(2, .int (nI (k + 1))), (0, .ref (b + 111)), (1, .int (nI j))]) B 2 rfl (nI_1 _) (by decide) rfl dX7_lays_41 ?_
            refine zv_goto (pc := 44) (tgt := 33) B rfl dX7_lays_44 ?_
            refine zv_loc (L' := [(0, .ref (b + 111)), (1, .int (nI j)), (2, .int (nI (k + 1)))]) [1, 2, 0] rfl ?_
            exact ih (k + 1) (by obtain ⟨q, h1q, h2q, h3q⟩ := hJ; exact ⟨q, h1q, (by rcases Nat.eq_or_lt_of_le h2q with e | e; (· exact absurd (e ▸ h6) h3q); (· exact e)), h3q⟩) (by omega) (Eq.trans (by rw [g3_X7_lays, if_pos h6]) hE903) hK
      refine zv_loc (L' := [(0, .ref (b + 111)), (1, .int (nI j)), (2, .int 0)]) [1, 2, 0] rfl ?_
      refine loop3 (fun k => g2_X7_lays c n (j + 1) (zup (zup c2 123 k 1) 121 j (nI k)) K) 9 0 (by obtain ⟨q, h1q, h2q⟩ := (zAc.some (zAc.congr hA (hF2 114 (by omega)) (hF2 118 (by omega)) (hF2 120 (by omega)))) (zct_some (by omega)); exact ⟨q, h1q, Nat.zero_le _, h2q⟩) (by omega) (Eq.trans (by rw [g2_X7_lays]) hE902) ?_
      intro k hJ hx
      intro (hE953 : g2_X7_lays c n (j + 1) (zup (zup c2 123 k 1) 121 j (nI k)) K = m_X7_lays c)
      refine zv_aload_n (pc := 47) B 0 rfl dX7_lays_47 ?_
      refine zv_get (pc := 48) (v := .ref (b + 123)) B (zat (by decide) (z111 _ _ _)) cl7 inX7 11 (by decide) wf_X7_43 rfl dX7_lays_48 ?_
      refine zv_iload_n (pc := 51) B 2 rfl dX7_lays_51 ?_
      refine zv_iconst (pc := 52) (v := 1) B rfl dX7_lays_52 ?_
      refine zs_zast (pc := 53) (jj := k) B zid (by decide) rfl (fun x w e => z123 x w e) rfl (by omega) (by decide) rfl dX7_lays_53 ?_
      refine zv_aload_n (pc := 54) B 0 rfl dX7_lays_54 ?_
      refine zv_get (pc := 55) (v := .ref (b + 121)) B (zat (by decide) (z111 _ _ _)) cl7 inX7 9 (by decide) wf_X7_37 rfl dX7_lays_55 ?_
      refine zv_iload_n (pc := 58) B 1 rfl dX7_lays_58 ?_
      refine zv_iload_n (pc := 59) B 2 rfl dX7_lays_59 ?_
      refine zs_iast (pc := 60) (jj := j) B zid (by decide) rfl (fun x w e => z121 x w e) rfl (by omega) (by decide) dX7_lays_60 ?_
      refine zv_iinc (pc := 61) (v := nI (j + 1)) (L' := [(1, .int (nI (j + 1))), (0, .ref (b + 111)), (2, .int (nI k))]) B 1 rfl (nI_1 _) (by decide) rfl dX7_lays_61 ?_
      refine zv_goto (pc := 64) (tgt := 23) B rfl dX7_lays_64 ?_
      refine zv_loc (L' := [(0, .ref (b + 111)), (1, .int (nI (j + 1)))]) [1, 0] rfl ?_
      exact ih (j + 1) (zup (zup c2 123 k 1) 121 j (nI k)) (zfr.up (zfr.up hF2 (by omega)) (by omega)) (zG.up (zG.up hg2 (show zn _ ≤ 1 from (show zn _ ≤ 1 by decide))) (show zn _ ≤ 9 from (show zn _ ≤ 9 by rw [zn_nI (by omega)]; omega))) (by rw [zup_i _ _ _ (by decide)]; exact Nat.le_trans (zct_up _ _ _ _ _) (by omega)) (by omega) hE953 hK
  refine zv_loc (L' := [(0, .ref (b + 111)), (1, .int 0)]) [1, 0] rfl ?_
  refine loop2 (fun j c2 => c2) (zn (c 111 13)) 0 c1 hF1 hg1 (by rw [zct_zero (fun q hq => h1y q (by omega))]; exact Nat.zero_le _) (by omega) hE951 ?_
  intro j c2 hF2 hg2 hct hx
  intro (hE952 : c2 = m_X7_lays c)
  have hE7 : c2 = m_X7_lays c := hE952
  exact zv_vret (pc := 67) B hr (fun H hP => ⟨(), ⟨rfl, Eq.subst (motive := fun z => zfr 121 122 123 124 c z) hE7 hF2, Eq.subst (motive := fun z => zG z) hE7 hg2⟩, Eq.subst (motive := fun z => zH E b z w en ea H) hE7 hP⟩) (Nat.le_of_ble_eq_true rfl) (Nat.le_of_ble_eq_true rfl) dX7_lays_67

def g4_X7_leads (c : Nat → Nat → Int32) (t u : Nat) (k : Nat) : Nat → Nat → (Nat → Nat → Int32) → (Nat → (Nat → Nat → Int32) → Int32 × (Nat → Nat → Int32)) → Int32 × (Nat → Nat → Int32)
  | 0, j, c4, K => K j c4
  | n + 1, j, c4, K => if (c4 123 k) = 0 then (g4_X7_leads c t u k n (j + 1) c4 K) else (if (c 114 j) = 2 then (g4_X7_leads c t u k n (j + 1) c4 K) else (if (m_X7_wire c4 (nI k) j) < 0 then (g4_X7_leads c t u k n (j + 1) c4 K) else (g4_X7_leads c t u k n (j + 1) (zup c4 123 j 1) K)))
def g3_X7_leads (c : Nat → Nat → Int32) (t u : Nat)  : Nat → Nat → (Nat → Nat → Int32) → (Nat → (Nat → Nat → Int32) → Int32 × (Nat → Nat → Int32)) → Int32 × (Nat → Nat → Int32)
  | 0, k, c3, K => K k c3
  | n + 1, k, c3, K => g4_X7_leads c t u k (zn (c 111 13)) 0 c3 (fun j c4 => g3_X7_leads c t u n (k + 1) c4 K)
def g2_X7_leads (c : Nat → Nat → Int32) (t u : Nat)  : Nat → Nat → (Nat → Nat → Int32) → (Nat → (Nat → Nat → Int32) → Int32 × (Nat → Nat → Int32)) → Int32 × (Nat → Nat → Int32)
  | 0, r, c2, K => K r c2
  | n + 1, r, c2, K => g3_X7_leads c t u (zn (c 111 13)) 0 c2 (fun k c3 => g2_X7_leads c t u n (r + 1) c3 K)
def g1_X7_leads (c : Nat → Nat → Int32) (t u : Nat)  : Nat → Nat → (Nat → Nat → Int32) → (Nat → (Nat → Nat → Int32) → Int32 × (Nat → Nat → Int32)) → Int32 × (Nat → Nat → Int32)
  | 0, i, c1, K => K i c1
  | n + 1, i, c1, K => if (nI i) = (nI t) then (if (c 114 i) = 2 then (g1_X7_leads c t u n (i + 1) (zup c1 123 i 0) K) else (g1_X7_leads c t u n (i + 1) (zup c1 123 i 1) K)) else (g1_X7_leads c t u n (i + 1) (zup c1 123 i 0) K)
def m_X7_leads (c : Nat → Nat → Int32) (t u : Nat) : Int32 × (Nat → Nat → Int32) := g1_X7_leads c t u 10 0 c (fun i c1 => g2_X7_leads c t u (zn (c 111 13)) 0 c1 (fun r c2 => (c2 123 u, c2)))
set_option maxRecDepth 100000 in
set_option maxHeartbeats 400000 in
theorem k_X7_leads (l : Launch) (E : zE) (b : Nat) (c : Nat → Nat → Int32) (w : Nat → Int64) (en : Nat → Nat) (ea : Nat → Nat → Int32) {t : Nat} (ht : t < 10) {u : Nat} (hu : u < 10) (hg : zG c) : zM l yX7_leads (.code yX7_leads cX7_leads 6 (some .boolean) :: zAll) (zRm 1 0 0) E b [.ref (b + 111), .int (nI t), .int (nI u)] (zH E b c w en ea) (fun v9 (_ : Unit) => v9 = some (.int (m_X7_leads c t u).1) ∧ zfr 123 124 123 123 c (m_X7_leads c t u).2 ∧ zG (m_X7_leads c t u).2) (fun _ => zH E b ((m_X7_leads c t u).2) w en ea) 0 0 := by
  refine zM_of "ToneGraphModel" (by decide) rfl rfl (Nat.le_of_ble_eq_true rfl) (L0 := [(0, .ref (b + 111)), (1, .int (nI t)), (2, .int (nI u))]) rfl ?_
  intro p e s m args below meth c9 B hr hname
  have hcn : zn (c 111 13) ≤ 10 := hg 111 13
  refine zv_iconst (pc := 0) (v := 0) B rfl dX7_leads_0 ?_
  refine zv_istore_n (pc := 1) (L' := [(3, .int 0), (0, .ref (b + 111)), (1, .int (nI t)), (2, .int (nI u))]) B (by decide) rfl dX7_leads_1 ?_
  have loop1 : ∀ (K : Nat → (Nat → Nat → Int32) → Int32 × (Nat → Nat → Int32)) (n : Nat) (i : Nat) (c1 : Nat → Nat → Int32), zfr 123 124 123 123 c c1 → zG c1 → i + n = 10 → g1_X7_leads c t u n i c1 K = m_X7_leads c t u → (∀ (i : Nat) (c1 : Nat → Nat → Int32), zfr 123 124 123 123 c c1 → zG c1 → i ≤ 10 → K i c1 = m_X7_leads c t u → zV p l e (zRm 1 0 0) s m args below meth c9 (MQ below (zQ b (fun v9 (_ : Unit) => v9 = some (.int (m_X7_leads c t u).1) ∧ zfr 123 124 123 123 c (m_X7_leads c t u).2 ∧ zG (m_X7_leads c t u).2) (fun _ => zH E b ((m_X7_leads c t u).2) w en ea)) args s 0 0 (zA b)) 6 b (zH E b c1 w en ea) 40 [(0, .ref (b + 111)), (1, .int (nI t)), (2, .int (nI u)), (3, .int (nI i))] [] 0 0) → zV p l e (zRm 1 0 0) s m args below meth c9 (MQ below (zQ b (fun v9 (_ : Unit) => v9 = some (.int (m_X7_leads c t u).1) ∧ zfr 123 124 123 123 c (m_X7_leads c t u).2 ∧ zG (m_X7_leads c t u).2) (fun _ => zH E b ((m_X7_leads c t u).2) w en ea)) args s 0 0 (zA b)) 6 b (zH E b c1 w en ea) 2 [(0, .ref (b + 111)), (1, .int (nI t)), (2, .int (nI u)), (3, .int (nI i))] [] 0 0 := by
    intro K n
    induction n with
    | zero =>
      intro i c1 hF1 hg1 hi hE901 hK
      refine zv_iload_n (pc := 2) B 3 rfl dX7_leads_2 ?_
      refine zv_bipush (pc := 3) (v := 10) B rfl dX7_leads_3 ?_
      refine zv_icmp_ge (pc := 5) (tgt := 40) B dX7_leads_5 rfl (fun _ => ?_) (fun h9 => absurd ((z_le (a := 10) (b := i) rfl rfl (by omega) (by omega)).mpr (by omega)) h9)
      exact hK i c1 hF1 hg1 (by omega) (Eq.trans (by rw [g1_X7_leads]) hE901)
    | succ n ih =>
      intro i c1 hF1 hg1 hi hE901 hK
      refine zv_iload_n (pc := 2) B 3 rfl dX7_leads_2 ?_
      refine zv_bipush (pc := 3) (v := 10) B rfl dX7_leads_3 ?_
      refine zv_icmp_ge (pc := 5) (tgt := 40) B dX7_leads_5 rfl (fun h9 => absurd h9 (fun q9 => absurd ((z_le (a := 10) (b := i) rfl rfl (by omega) (by omega)).mp q9) (by omega))) (fun _ => ?_)
      refine zv_aload_n (pc := 8) B 0 rfl dX7_leads_8 ?_
      refine zv_get (pc := 9) (v := .ref (b + 123)) B (zat (by decide) (z111 _ _ _)) cl7 inX7 11 (by decide) wf_X7_43 rfl dX7_leads_9 ?_
      refine zv_iload_n (pc := 12) B 3 rfl dX7_leads_12 ?_
      refine zv_iload_n (pc := 13) B 3 rfl dX7_leads_13 ?_
      refine zv_iload_n (pc := 14) B 1 rfl dX7_leads_14 ?_
      refine zv_icmp_ne (pc := 15) (tgt := 32) B dX7_leads_15 rfl (fun h3 => ?_) (fun h3 => ?_)
      · have nh3 : ¬ i = t := fun q9 => h3 ((nI_eq (a := i) (b := t) (by omega) (by omega)).mpr q9)
        refine zv_iconst (pc := 32) (v := 0) B rfl dX7_leads_32 ?_
        refine zs_zast (pc := 33) (jj := i) B zid (by decide) rfl (fun x w e => z123 x w e) rfl (by omega) (by decide) rfl dX7_leads_33 ?_
        refine zv_iinc (pc := 34) (v := nI (i + 1)) (L' := [(3, .int (nI (i + 1))), (0, .ref (b + 111)), (1, .int (nI t)), (2, .int (nI u))]) B 3 rfl (nI_1 _) (by decide) rfl dX7_leads_34 ?_
        refine zv_goto (pc := 37) (tgt := 2) B rfl dX7_leads_37 ?_
        refine zv_loc (L' := [(0, .ref (b + 111)), (1, .int (nI t)), (2, .int (nI u)), (3, .int (nI (i + 1)))]) [1, 2, 3, 0] rfl ?_
        exact ih (i + 1) (zup c1 123 i 0) (zfr.up hF1 (by omega)) (zG.up hg1 (show zn _ ≤ 1 from (show zn _ ≤ 1 by decide))) (by omega) (Eq.trans (by rw [g1_X7_leads, if_neg h3]) hE901) hK
      · have nh3 : i = t := (nI_eq (a := i) (b := t) (by omega) (by omega)).mp h3
        refine zv_aload_n (pc := 18) B 0 rfl dX7_leads_18 ?_
        refine zv_get (pc := 19) (v := .ref (b + 114)) B (zat (by decide) (z111 _ _ _)) cl7 inX7 2 (by decide) wf_X7_16 rfl dX7_leads_19 ?_
        refine zv_iload_n (pc := 22) B 3 rfl dX7_leads_22 ?_
        refine zv_iald (pc := 23) (jj := i) B (zat (by decide) (z114 _ _ _)) rfl (by omega) (by decide) dX7_leads_23 ?_
        refine zv_topi (y := c 114 i) (by rw [hF1 114 (by omega)]) ?_
        refine zv_iconst (pc := 24) (v := 2) B rfl dX7_leads_24 ?_
        refine zv_icmp_eq (pc := 25) (tgt := 32) B dX7_leads_25 rfl (fun h4 => ?_) (fun h4 => ?_)
        · refine zv_iconst (pc := 32) (v := 0) B rfl dX7_leads_32 ?_
          refine zs_zast (pc := 33) (jj := i) B zid (by decide) rfl (fun x w e => z123 x w e) rfl (by omega) (by decide) rfl dX7_leads_33 ?_
          refine zv_iinc (pc := 34) (v := nI (i + 1)) (L' := [(3, .int (nI (i + 1))), (0, .ref (b + 111)), (1, .int (nI t)), (2, .int (nI u))]) B 3 rfl (nI_1 _) (by decide) rfl dX7_leads_34 ?_
          refine zv_goto (pc := 37) (tgt := 2) B rfl dX7_leads_37 ?_
          refine zv_loc (L' := [(0, .ref (b + 111)), (1, .int (nI t)), (2, .int (nI u)), (3, .int (nI (i + 1)))]) [1, 2, 3, 0] rfl ?_
          exact ih (i + 1) (zup c1 123 i 0) (zfr.up hF1 (by omega)) (zG.up hg1 (show zn _ ≤ 1 from (show zn _ ≤ 1 by decide))) (by omega) (Eq.trans (by rw [g1_X7_leads, if_pos h3, if_pos h4]) hE901) hK
        · refine zv_iconst (pc := 28) (v := 1) B rfl dX7_leads_28 ?_
          refine zv_goto (pc := 29) (tgt := 33) B rfl dX7_leads_29 ?_
          refine zs_zast (pc := 33) (jj := i) B zid (by decide) rfl (fun x w e => z123 x w e) rfl (by omega) (by decide) rfl dX7_leads_33 ?_
          refine zv_iinc (pc := 34) (v := nI (i + 1)) (L' := [(3, .int (nI (i + 1))), (0, .ref (b + 111)), (1, .int (nI t)), (2, .int (nI u))]) B 3 rfl (nI_1 _) (by decide) rfl dX7_leads_34 ?_
          refine zv_goto (pc := 37) (tgt := 2) B rfl dX7_leads_37 ?_
          refine zv_loc (L' := [(0, .ref (b + 111)), (1, .int (nI t)), (2, .int (nI u)), (3, .int (nI (i + 1)))]) [1, 2, 3, 0] rfl ?_
          exact ih (i + 1) (zup c1 123 i 1) (zfr.up hF1 (by omega)) (zG.up hg1 (show zn _ ≤ 1 from (show zn _ ≤ 1 by decide))) (by omega) (Eq.trans (by rw [g1_X7_leads, if_pos h3, if_neg h4]) hE901) hK
  refine zv_loc (L' := [(0, .ref (b + 111)), (1, .int (nI t)), (2, .int (nI u)), (3, .int 0)]) [1, 2, 3, 0] rfl ?_
  refine loop1 (fun i c1 => g2_X7_leads c t u (zn (c 111 13)) 0 c1 (fun r c2 => (c2 123 u, c2))) 10 0 c zfr.refl hg (by omega) (by unfold m_X7_leads; rfl) ?_
  intro i c1 hF1 hg1 hx
  intro (hE951 : g2_X7_leads c t u (zn (c 111 13)) 0 c1 (fun r c2 => (c2 123 u, c2)) = m_X7_leads c t u)
  refine zv_iconst (pc := 40) (v := 0) B rfl dX7_leads_40 ?_
  refine zv_istore_n (pc := 41) (L' := [(3, .int 0), (0, .ref (b + 111)), (1, .int (nI t)), (2, .int (nI u))]) B (by decide) rfl dX7_leads_41 ?_
  have loop2 : ∀ (K : Nat → (Nat → Nat → Int32) → Int32 × (Nat → Nat → Int32)) (n : Nat) (r : Nat) (c2 : Nat → Nat → Int32), zfr 123 124 123 123 c c2 → zG c2 → r + n = zn (c 111 13) → g2_X7_leads c t u n r c2 K = m_X7_leads c t u → (∀ (r : Nat) (c2 : Nat → Nat → Int32), zfr 123 124 123 123 c c2 → zG c2 → r ≤ zn (c 111 13) → K r c2 = m_X7_leads c t u → zV p l e (zRm 1 0 0) s m args below meth c9 (MQ below (zQ b (fun v9 (_ : Unit) => v9 = some (.int (m_X7_leads c t u).1) ∧ zfr 123 124 123 123 c (m_X7_leads c t u).2 ∧ zG (m_X7_leads c t u).2) (fun _ => zH E b ((m_X7_leads c t u).2) w en ea)) args s 0 0 (zA b)) 6 b (zH E b c2 w en ea) 132 [(0, .ref (b + 111)), (1, .int (nI t)), (2, .int (nI u)), (3, .int (nI r))] [] 0 0) → zV p l e (zRm 1 0 0) s m args below meth c9 (MQ below (zQ b (fun v9 (_ : Unit) => v9 = some (.int (m_X7_leads c t u).1) ∧ zfr 123 124 123 123 c (m_X7_leads c t u).2 ∧ zG (m_X7_leads c t u).2) (fun _ => zH E b ((m_X7_leads c t u).2) w en ea)) args s 0 0 (zA b)) 6 b (zH E b c2 w en ea) 42 [(0, .ref (b + 111)), (1, .int (nI t)), (2, .int (nI u)), (3, .int (nI r))] [] 0 0 := by
    intro K n
    induction n with
    | zero =>
      intro r c2 hF2 hg2 hi hE902 hK
      refine zv_iload_n (pc := 42) B 3 rfl dX7_leads_42 ?_
      refine zv_aload_n (pc := 43) B 0 rfl dX7_leads_43 ?_
      refine zv_get (pc := 44) (v := .int (c2 111 13)) B (zat (by decide) (z111 _ _ _)) cl7 inX7 13 (by decide) wf_X7_51 rfl dX7_leads_44 ?_
      refine zv_topi (y := c 111 13) (by rw [hF2 111 (by omega)]) ?_
      refine zv_icmp_ge (pc := 47) (tgt := 132) B dX7_leads_47 rfl (fun _ => ?_) (fun h9 => absurd ((z_le (a := (zn (c 111 13))) (b := r) (zn_eq (c 111 13)) rfl (by have h8 := (show zn _ ≤ 10 from hg 111 13); omega) (by have h8 := (show zn _ ≤ 10 from hg 111 13); omega)).mpr (by have h8 := (show zn _ ≤ 10 from hg 111 13); omega)) h9)
      exact hK r c2 hF2 hg2 (by omega) (Eq.trans (by rw [g2_X7_leads]) hE902)
    | succ n ih =>
      intro r c2 hF2 hg2 hi hE902 hK
      refine zv_iload_n (pc := 42) B 3 rfl dX7_leads_42 ?_
      refine zv_aload_n (pc := 43) B 0 rfl dX7_leads_43 ?_
      refine zv_get (pc := 44) (v := .int (c2 111 13)) B (zat (by decide) (z111 _ _ _)) cl7 inX7 13 (by decide) wf_X7_51 rfl dX7_leads_44 ?_
      refine zv_topi (y := c 111 13) (by rw [hF2 111 (by omega)]) ?_
      refine zv_icmp_ge (pc := 47) (tgt := 132) B dX7_leads_47 rfl (fun h9 => absurd h9 (fun q9 => absurd ((z_le (a := (zn (c 111 13))) (b := r) (zn_eq (c 111 13)) rfl (by have h8 := (show zn _ ≤ 10 from hg 111 13); omega) (by have h8 := (show zn _ ≤ 10 from hg 111 13); omega)).mp q9) (by have h8 := (show zn _ ≤ 10 from hg 111 13); omega))) (fun _ => ?_)
      refine zv_iconst (pc := 50) (v := 0) B rfl dX7_leads_50 ?_
      refine zv_istore (pc := 51) (L' := [(4, .int 0), (0, .ref (b + 111)), (1, .int (nI t)), (2, .int (nI u)), (3, .int (nI r))]) B (by decide) rfl dX7_leads_51 ?_
      have loop3 : ∀ (K : Nat → (Nat → Nat → Int32) → Int32 × (Nat → Nat → Int32)) (n : Nat) (k : Nat) (c3 : Nat → Nat → Int32), zfr 123 124 123 123 c c3 → zG c3 → k + n = zn (c 111 13) → g3_X7_leads c t u n k c3 K = m_X7_leads c t u → (∀ (k : Nat) (c3 : Nat → Nat → Int32), zfr 123 124 123 123 c c3 → zG c3 → k ≤ zn (c 111 13) → K k c3 = m_X7_leads c t u → zV p l e (zRm 1 0 0) s m args below meth c9 (MQ below (zQ b (fun v9 (_ : Unit) => v9 = some (.int (m_X7_leads c t u).1) ∧ zfr 123 124 123 123 c (m_X7_leads c t u).2 ∧ zG (m_X7_leads c t u).2) (fun _ => zH E b ((m_X7_leads c t u).2) w en ea)) args s 0 0 (zA b)) 6 b (zH E b c3 w en ea) 126 [(0, .ref (b + 111)), (1, .int (nI t)), (2, .int (nI u)), (3, .int (nI r)), (4, .int (nI k))] [] 0 0) → zV p l e (zRm 1 0 0) s m args below meth c9 (MQ below (zQ b (fun v9 (_ : Unit) => v9 = some (.int (m_X7_leads c t u).1) ∧ zfr 123 124 123 123 c (m_X7_leads c t u).2 ∧ zG (m_X7_leads c t u).2) (fun _ => zH E b ((m_X7_leads c t u).2) w en ea)) args s 0 0 (zA b)) 6 b (zH E b c3 w en ea) 53 [(0, .ref (b + 111)), (1, .int (nI t)), (2, .int (nI u)), (3, .int (nI r)), (4, .int (nI k))] [] 0 0 := by
        intro K n
        induction n with
        | zero =>
          intro k c3 hF3 hg3 hi hE903 hK
          refine zv_iload (pc := 53) B 4 rfl dX7_leads_53 ?_
          refine zv_aload_n (pc := 55) B 0 rfl dX7_leads_55 ?_
          refine zv_get (pc := 56) (v := .int (c3 111 13)) B (zat (by decide) (z111 _ _ _)) cl7 inX7 13 (by decide) wf_X7_51 rfl dX7_leads_56 ?_
          refine zv_topi (y := c 111 13) (by rw [hF3 111 (by omega)]) ?_
          refine zv_icmp_ge (pc := 59) (tgt := 126) B dX7_leads_59 rfl (fun _ => ?_) (fun h9 => absurd ((z_le (a := (zn (c 111 13))) (b := k) (zn_eq (c 111 13)) rfl (by have h8 := (show zn _ ≤ 10 from hg 111 13); omega) (by have h8 := (show zn _ ≤ 10 from hg 111 13); omega)).mpr (by have h8 := (show zn _ ≤ 10 from hg 111 13); omega)) h9)
          exact hK k c3 hF3 hg3 (by omega) (Eq.trans (by rw [g3_X7_leads]) hE903)
        | succ n ih =>
          intro k c3 hF3 hg3 hi hE903 hK
          refine zv_iload (pc := 53) B 4 rfl dX7_leads_53 ?_
          refine zv_aload_n (pc := 55) B 0 rfl dX7_leads_55 ?_
          refine zv_get (pc := 56) (v := .int (c3 111 13)) B (zat (by decide) (z111 _ _ _)) cl7 inX7 13 (by decide) wf_X7_51 rfl dX7_leads_56 ?_
          refine zv_topi (y := c 111 13) (by rw [hF3 111 (by omega)]) ?_
          refine zv_icmp_ge (pc := 59) (tgt := 126) B dX7_leads_59 rfl (fun h9 => absurd h9 (fun q9 => absurd ((z_le (a := (zn (c 111 13))) (b := k) (zn_eq (c 111 13)) rfl (by have h8 := (show zn _ ≤ 10 from hg 111 13); omega) (by have h8 := (show zn _ ≤ 10 from hg 111 13); omega)).mp q9) (by have h8 := (show zn _ ≤ 10 from hg 111 13); omega))) (fun _ => ?_)
          refine zv_iconst (pc := 62) (v := 0) B rfl dX7_leads_62 ?_
          refine zv_istore (pc := 63) (L' := [(5, .int 0), (0, .ref (b + 111)), (1, .int (nI t)), (2, .int (nI u)), (3, .int (nI r)), (4, .int (nI k))]) B (by decide) rfl dX7_leads_63 ?_
          have loop4 : ∀ (K : Nat → (Nat → Nat → Int32) → Int32 × (Nat → Nat → Int32)) (n : Nat) (j : Nat) (c4 : Nat → Nat → Int32), zfr 123 124 123 123 c c4 → zG c4 → j + n = zn (c 111 13) → g4_X7_leads c t u k n j c4 K = m_X7_leads c t u → (∀ (j : Nat) (c4 : Nat → Nat → Int32), zfr 123 124 123 123 c c4 → zG c4 → j ≤ zn (c 111 13) → K j c4 = m_X7_leads c t u → zV p l e (zRm 1 0 0) s m args below meth c9 (MQ below (zQ b (fun v9 (_ : Unit) => v9 = some (.int (m_X7_leads c t u).1) ∧ zfr 123 124 123 123 c (m_X7_leads c t u).2 ∧ zG (m_X7_leads c t u).2) (fun _ => zH E b ((m_X7_leads c t u).2) w en ea)) args s 0 0 (zA b)) 6 b (zH E b c4 w en ea) 120 [(0, .ref (b + 111)), (1, .int (nI t)), (2, .int (nI u)), (3, .int (nI r)), (4, .int (nI k)), (5, .int (nI j))] [] 0 0) → zV p l e (zRm 1 0 0) s m args below meth c9 (MQ below (zQ b (fun v9 (_ : Unit) => v9 = some (.int (m_X7_leads c t u).1) ∧ zfr 123 124 123 123 c (m_X7_leads c t u).2 ∧ zG (m_X7_leads c t u).2) (fun _ => zH E b ((m_X7_leads c t u).2) w en ea)) args s 0 0 (zA b)) 6 b (zH E b c4 w en ea) 65 [(0, .ref (b + 111)), (1, .int (nI t)), (2, .int (nI u)), (3, .int (nI r)), (4, .int (nI k)), (5, .int (nI j))] [] 0 0 := by
            intro K n
            induction n with
            | zero =>
              intro j c4 hF4 hg4 hi hE904 hK
              refine zv_iload (pc := 65) B 5 rfl dX7_leads_65 ?_
              refine zv_aload_n (pc := 67) B 0 rfl dX7_leads_67 ?_
              refine zv_get (pc := 68) (v := .int (c4 111 13)) B (zat (by decide) (z111 _ _ _)) cl7 inX7 13 (by decide) wf_X7_51 rfl dX7_leads_68 ?_
              refine zv_topi (y := c 111 13) (by rw [hF4 111 (by omega)]) ?_
              refine zv_icmp_ge (pc := 71) (tgt := 120) B dX7_leads_71 rfl (fun _ => ?_) (fun h9 => absurd ((z_le (a := (zn (c 111 13))) (b := j) (zn_eq (c 111 13)) rfl (by have h8 := (show zn _ ≤ 10 from hg 111 13); omega) (by have h8 := (show zn _ ≤ 10 from hg 111 13); omega)).mpr (by have h8 := (show zn _ ≤ 10 from hg 111 13); omega)) h9)
              exact hK j c4 hF4 hg4 (by omega) (Eq.trans (by rw [g4_X7_leads]) hE904)
            | succ n ih =>
              intro j c4 hF4 hg4 hi hE904 hK
              refine zv_iload (pc := 65) B 5 rfl dX7_leads_65 ?_
              refine zv_aload_n (pc := 67) B 0 rfl dX7_leads_67 ?_
              refine zv_get (pc := 68) (v := .int (c4 111 13)) B (zat (by decide) (z111 _ _ _)) cl7 inX7 13 (by decide) wf_X7_51 rfl dX7_leads_68 ?_
              refine zv_topi (y := c 111 13) (by rw [hF4 111 (by omega)]) ?_
              refine zv_icmp_ge (pc := 71) (tgt := 120) B dX7_leads_71 rfl (fun h9 => absurd h9 (fun q9 => absurd ((z_le (a := (zn (c 111 13))) (b := j) (zn_eq (c 111 13)) rfl (by have h8 := (show zn _ ≤ 10 from hg 111 13); omega) (by have h8 := (show zn _ ≤ 10 from hg 111 13); omega)).mp q9) (by have h8 := (show zn _ ≤ 10 from hg 111 13); omega))) (fun _ => ?_)
              refine zv_aload_n (pc := 74) B 0 rfl dX7_leads_74 ?_
              refine zv_get (pc := 75) (v := .ref (b + 123)) B (zat (by decide) (z111 _ _ _)) cl7 inX7 11 (by decide) wf_X7_43 rfl dX7_leads_75 ?_
              refine zv_iload (pc := 78) B 4 rfl dX7_leads_78 ?_
              refine zv_zald (pc := 80) (jj := k) B (zat (by decide) (z123 _ _ _)) rfl (by omega) (by decide) dX7_leads_80 ?_
              refine zv_if_eq (pc := 81) (tgt := 114) B dX7_leads_81 rfl (fun h11 => ?_) (fun h11 => ?_)
              · refine zv_iinc (pc := 114) (v := nI (j + 1)) (L' := [(5, .int (nI (j + 1))), (0, .ref (b + 111)), (1, .int (nI t)), (2, .int (nI u)), (3, .int (nI r)), (4, .int (nI k))]) B 5 rfl (nI_1 _) (by decide) rfl dX7_leads_114 ?_
                refine zv_goto (pc := 117) (tgt := 65) B rfl dX7_leads_117 ?_
                refine zv_loc (L' := [(0, .ref (b + 111)), (1, .int (nI t)), (2, .int (nI u)), (3, .int (nI r)), (4, .int (nI k)), (5, .int (nI (j + 1)))]) [1, 2, 3, 4, 5, 0] rfl ?_
                exact ih (j + 1) c4 hF4 hg4 (by omega) (Eq.trans (by rw [g4_X7_leads, if_pos h11]) hE904) hK
              · refine zv_aload_n (pc := 84) B 0 rfl dX7_leads_84 ?_
                refine zv_get (pc := 85) (v := .ref (b + 114)) B (zat (by decide) (z111 _ _ _)) cl7 inX7 2 (by decide) wf_X7_16 rfl dX7_leads_85 ?_
                refine zv_iload (pc := 88) B 5 rfl dX7_leads_88 ?_
                refine zv_iald (pc := 90) (jj := j) B (zat (by decide) (z114 _ _ _)) rfl (by omega) (by decide) dX7_leads_90 ?_
                refine zv_topi (y := c 114 j) (by rw [hF4 114 (by omega)]) ?_
                refine zv_iconst (pc := 91) (v := 2) B rfl dX7_leads_91 ?_
                refine zv_icmp_eq (pc := 92) (tgt := 114) B dX7_leads_92 rfl (fun h12 => ?_) (fun h12 => ?_)
                · refine zv_iinc (pc := 114) (v := nI (j + 1)) (L' := [(5, .int (nI (j + 1))), (0, .ref (b + 111)), (1, .int (nI t)), (2, .int (nI u)), (3, .int (nI r)), (4, .int (nI k))]) B 5 rfl (nI_1 _) (by decide) rfl dX7_leads_114 ?_
                  refine zv_goto (pc := 117) (tgt := 65) B rfl dX7_leads_117 ?_
                  refine zv_loc (L' := [(0, .ref (b + 111)), (1, .int (nI t)), (2, .int (nI u)), (3, .int (nI r)), (4, .int (nI k)), (5, .int (nI (j + 1)))]) [1, 2, 3, 4, 5, 0] rfl ?_
                  exact ih (j + 1) c4 hF4 hg4 (by omega) (Eq.trans (by rw [g4_X7_leads, if_neg h11, if_pos h12]) hE904) hK
                · refine zv_aload_n (pc := 95) B 0 rfl dX7_leads_95 ?_
                  refine zv_iload (pc := 96) B 4 rfl dX7_leads_96 ?_
                  refine zv_iload (pc := 98) B 5 rfl dX7_leads_98 ?_
                  refine zv_callV (pc := 100) (As := [.int (nI k), .int (nI j)]) (rest := []) B (k_X7_wire l E b _ _ _ _  (nI k) (by omega) hg4) (zcwV 2 0 B wm_X7_106 wi_X7_wire wv_X7_wire wn_X7 wcode_X7_wire rfl (by decide +kernel) ⟨(Nat.le_of_ble_eq_true rfl), (Nat.le_of_ble_eq_true rfl)⟩) rfl (zrecv B (zat (by decide) (z111 _ _ _)) cl7) zid rfl (Nat.le_of_ble_eq_true rfl) dX7_leads_100 ⟨(Nat.le_of_ble_eq_true rfl), (Nat.le_of_ble_eq_true rfl)⟩ (fun v9 u9 hv9 => ?_)
                  subst hv9
                  refine zv_st (st' := [.int (m_X7_wire c4 (nI k) j)]) rfl ?_
                  refine zv_if_lt (pc := 103) (tgt := 114) B dX7_leads_103 rfl (fun h13 => ?_) (fun h13 => ?_)
                  · refine zv_iinc (pc := 114) (v := nI (j + 1)) (L' := [(5, .int (nI (j + 1))), (0, .ref (b + 111)), (1, .int (nI t)), (2, .int (nI u)), (3, .int (nI r)), (4, .int (nI k))]) B 5 rfl (nI_1 _) (by decide) rfl dX7_leads_114 ?_
                    refine zv_goto (pc := 117) (tgt := 65) B rfl dX7_leads_117 ?_
                    refine zv_loc (L' := [(0, .ref (b + 111)), (1, .int (nI t)), (2, .int (nI u)), (3, .int (nI r)), (4, .int (nI k)), (5, .int (nI (j + 1)))]) [1, 2, 3, 4, 5, 0] rfl ?_
                    exact ih (j + 1) c4 hF4 hg4 (by omega) (Eq.trans (by rw [g4_X7_leads, if_neg h11, if_neg h12, if_pos h13]) hE904) hK
                  · refine zv_aload_n (pc := 106) B 0 rfl dX7_leads_106 ?_
                    refine zv_get (pc := 107) (v := .ref (b + 123)) B (zat (by decide) (z111 _ _ _)) cl7 inX7 11 (by decide) wf_X7_43 rfl dX7_leads_107 ?_
                    refine zv_iload (pc := 110) B 5 rfl dX7_leads_110 ?_
                    refine zv_iconst (pc := 112) (v := 1) B rfl dX7_leads_112 ?_
                    refine zs_zast (pc := 113) (jj := j) B zid (by decide) rfl (fun x w e => z123 x w e) rfl (by omega) (by decide) rfl dX7_leads_113 ?_
                    refine zv_iinc (pc := 114) (v := nI (j + 1)) (L' := [(5, .int (nI (j + 1))), (0, .ref (b + 111)), (1, .int (nI t)), (2, .int (nI u)), (3, .int (nI r)), (4, .int (nI k))]) B 5 rfl (nI_1 _) (by decide) rfl dX7_leads_114 ?_
                    refine zv_goto (pc := 117) (tgt := 65) B rfl dX7_leads_117 ?_
                    refine zv_loc (L' := [(0, .ref (b + 111)), (1, .int (nI t)), (2, .int (nI u)), (3, .int (nI r)), (4, .int (nI k)), (5, .int (nI (j + 1)))]) [1, 2, 3, 4, 5, 0] rfl ?_
                    exact ih (j + 1) (zup c4 123 j 1) (zfr.up hF4 (by omega)) (zG.up hg4 (show zn _ ≤ 1 from (show zn _ ≤ 1 by decide))) (by omega) (Eq.trans (by rw [g4_X7_leads, if_neg h11, if_neg h12, if_neg h13]) hE904) hK
          refine zv_loc (L' := [(0, .ref (b + 111)), (1, .int (nI t)), (2, .int (nI u)), (3, .int (nI r)), (4, .int (nI k)), (5, .int 0)]) [1, 2, 3, 4, 5, 0] rfl ?_
          refine loop4 (fun j c4 => g3_X7_leads c t u n (k + 1) c4 K) (zn (c 111 13)) 0 c3 hF3 hg3 (by omega) (Eq.trans (by rw [g3_X7_leads]) hE903) ?_
          intro j c4 hF4 hg4 hx
          intro (hE954 : g3_X7_leads c t u n (k + 1) c4 K = m_X7_leads c t u)
          refine zv_iinc (pc := 120) (v := nI (k + 1)) (L' := [(4, .int (nI (k + 1))), (0, .ref (b + 111)), (1, .int (nI t)), (2, .int (nI u)), (3, .int (nI r)), (5, .int (nI j))]) B 4 rfl (nI_1 _) (by decide) rfl dX7_leads_120 ?_
          refine zv_goto (pc := 123) (tgt := 53) B rfl dX7_leads_123 ?_
          refine zv_loc (L' := [(0, .ref (b + 111)), (1, .int (nI t)), (2, .int (nI u)), (3, .int (nI r)), (4, .int (nI (k + 1)))]) [1, 2, 3, 4, 0] rfl ?_
          exact ih (k + 1) c4 hF4 hg4 (by omega) hE954 hK
      refine zv_loc (L' := [(0, .ref (b + 111)), (1, .int (nI t)), (2, .int (nI u)), (3, .int (nI r)), (4, .int 0)]) [1, 2, 3, 4, 0] rfl ?_
      refine loop3 (fun k c3 => g2_X7_leads c t u n (r + 1) c3 K) (zn (c 111 13)) 0 c2 hF2 hg2 (by omega) (Eq.trans (by rw [g2_X7_leads]) hE902) ?_
      intro k c3 hF3 hg3 hx
      intro (hE953 : g2_X7_leads c t u n (r + 1) c3 K = m_X7_leads c t u)
      refine zv_iinc (pc := 126) (v := nI (r + 1)) (L' := [(3, .int (nI (r + 1))), (0, .ref (b + 111)), (1, .int (nI t)), (2, .int (nI u)), (4, .int (nI k))]) B 3 rfl (nI_1 _) (by decide) rfl dX7_leads_126 ?_
      refine zv_goto (pc := 129) (tgt := 42) B rfl dX7_leads_129 ?_
      refine zv_loc (L' := [(0, .ref (b + 111)), (1, .int (nI t)), (2, .int (nI u)), (3, .int (nI (r + 1)))]) [1, 2, 3, 0] rfl ?_
      exact ih (r + 1) c3 hF3 hg3 (by omega) hE953 hK
  refine zv_loc (L' := [(0, .ref (b + 111)), (1, .int (nI t)), (2, .int (nI u)), (3, .int 0)]) [1, 2, 3, 0] rfl ?_
  refine loop2 (fun r c2 => (c2 123 u, c2)) (zn (c 111 13)) 0 c1 hF1 hg1 (by omega) hE951 ?_
  intro r c2 hF2 hg2 hx
  intro (hE952 : (c2 123 u, c2) = m_X7_leads c t u)
  refine zv_aload_n (pc := 132) B 0 rfl dX7_leads_132 ?_
  refine zv_get (pc := 133) (v := .ref (b + 123)) B (zat (by decide) (z111 _ _ _)) cl7 inX7 11 (by decide) wf_X7_43 rfl dX7_leads_133 ?_
  refine zv_iload_n (pc := 136) B 2 rfl dX7_leads_136 ?_
  refine zv_zald (pc := 137) (jj := u) B (zat (by decide) (z123 _ _ _)) rfl hu (by decide) dX7_leads_137 ?_
  have hE14 : (c2 123 u, c2) = m_X7_leads c t u := hE952
  exact zv_zret (pc := 138) B (c2 123 u) (znar_b (show zn _ ≤ 1 from hg2 123 u)) hr (fun H hP => ⟨(), ⟨(by rw [(zp2 hE14).1]), (by rw [(zp2 hE14).2]; exact hF2), (by rw [(zp2 hE14).2]; exact hg2)⟩, (by rw [(zp2 hE14).2]; exact hP)⟩) (Nat.le_of_ble_eq_true rfl) (Nat.le_of_ble_eq_true rfl) dX7_leads_138
