/-! voices: at o + 3 + 2 * v, o = 34 or 70 -/
def zB (z : Int32) : Prop := narrow .boolean (.int z) = .int z ∧ fits .boolean (.int z) = true
def zCh (z : Int32) : Prop := narrow .char (.int z) = .int z ∧ fits .char (.int z) = true
theorem zB0 : zB 0 := ⟨rfl, rfl⟩
theorem zB1 : zB 1 := ⟨rfl, rfl⟩
theorem zB_of {z : Int32} (h : z = 0 ∨ z = 1) : zB z := by rcases h with rfl | rfl <;> exact ⟨rfl, rfl⟩
theorem zCh_of {z : Int32} (h : z = 115 ∨ z = 113 ∨ z = 116) : zCh z := by rcases h with rfl | rfl | rfl <;> exact ⟨rfl, rfl⟩
def m_X5_level (c : Nat → Nat → Int32) (ea : Nat → Nat → Int32) (o v : Nat) : Int32 := if (c (o + 3 + 2 * v) 0) = 0 then 0 else (if (c (o + 3 + 2 * v) 1) = 0 then (if (ea (o + 3 + 2 * v) 0) ≤ 0 then (if (ea (o + 3 + 2 * v) 1) ≤ 0 then (ea (o + 3 + 2 * v) 2) else (if (ea (o + 3 + 2 * v) 1) ≤ ((c (o + 3 + 2 * v) 10) - (ea (o + 3 + 2 * v) 0)) then (ea (o + 3 + 2 * v) 2) else (1000 - (((1000 - (ea (o + 3 + 2 * v) 2)) * ((c (o + 3 + 2 * v) 10) - (ea (o + 3 + 2 * v) 0))) / (ea (o + 3 + 2 * v) 1))))) else (if (ea (o + 3 + 2 * v) 0) ≤ (c (o + 3 + 2 * v) 10) then (if (ea (o + 3 + 2 * v) 1) ≤ 0 then (ea (o + 3 + 2 * v) 2) else (if (ea (o + 3 + 2 * v) 1) ≤ ((c (o + 3 + 2 * v) 10) - (ea (o + 3 + 2 * v) 0)) then (ea (o + 3 + 2 * v) 2) else (1000 - (((1000 - (ea (o + 3 + 2 * v) 2)) * ((c (o + 3 + 2 * v) 10) - (ea (o + 3 + 2 * v) 0))) / (ea (o + 3 + 2 * v) 1))))) else ((1000 * (c (o + 3 + 2 * v) 10)) / (ea (o + 3 + 2 * v) 0)))) else (if (ea (o + 3 + 2 * v) 3) ≤ 0 then 0 else ((c (o + 3 + 2 * v) 11) - (((c (o + 3 + 2 * v) 11) * (c (o + 3 + 2 * v) 12)) / (ea (o + 3 + 2 * v) 3)))))
set_option maxRecDepth 100000 in
set_option maxHeartbeats 4000000 in
theorem k_X5_level (l : Launch) (E : zE) (b : Nat) (c : Nat → Nat → Int32) (w : Nat → Int64) (en : Nat → Nat) (ea : Nat → Nat → Int32) {o v : Nat} (ho : zTk o) (hv : v < 4) : zM l yX5_level (.code yX5_level cX5_level 4 (some .int) :: zAll) (zRm 0 0 0) E b [.ref (b + (o + 3 + 2 * v))] (zH E b c w en ea) (fun v9 (_ : Unit) => v9 = some (.int (m_X5_level c ea o v))) (fun _ => zH E b c w en ea) 0 0 := by
  refine zM_of "ToneGraph$Voice" (by decide) rfl rfl (Nat.le_of_ble_eq_true rfl) (L0 := [(0, .ref (b + (o + 3 + 2 * v)))]) rfl ?_
  intro p e s m args below meth c9 B hr hname
  have ho9 : o = 34 ∨ o = 70 := ho
  refine zv_aload_n (pc := 0) B 0 rfl dX5_level_0 ?_
  refine zv_get (pc := 1) (v := .int (c (o + 3 + 2 * v) 0)) B (zat (by have h9 : v < 4 := hv; have := zTk.lt ho (k := 3 + 2 * v) (by omega); omega) (zt_vc ho hv _ _ _)) cl5 inX5 0 (by decide) wf_X5_24 rfl dX5_level_1 ?_
  refine zv_if_ne (pc := 4) (tgt := 9) B dX5_level_4 rfl (fun h1 => ?_) (fun h1 => ?_)
  · refine zv_aload_n (pc := 9) B 0 rfl dX5_level_9 ?_
    refine zv_get (pc := 10) (v := .int (c (o + 3 + 2 * v) 1)) B (zat (by have h9 : v < 4 := hv; have := zTk.lt ho (k := 3 + 2 * v) (by omega); omega) (zt_vc ho hv _ _ _)) cl5 inX5 1 (by decide) wf_X5_28 rfl dX5_level_10 ?_
    refine zv_if_eq (pc := 13) (tgt := 49) B dX5_level_13 rfl (fun h2 => ?_) (fun h2 => ?_)
    · refine zv_aload_n (pc := 49) B 0 rfl dX5_level_49 ?_
      refine zv_get (pc := 50) (v := .ref (en (o + 3 + 2 * v))) B (zat (by have h9 : v < 4 := hv; have := zTk.lt ho (k := 3 + 2 * v) (by omega); omega) (zt_vc ho hv _ _ _)) cl5 inX5 5 (by decide) wf_X5_20 rfl dX5_level_50 ?_
      refine zv_get (pc := 53) (v := .int (ea (o + 3 + 2 * v) 0)) B (zaev (zae _ (zt_vc_h ho hv))) cl2 inX2 0 (by decide) wf_X5_81 rfl dX5_level_53 ?_
      refine zv_istore_n (pc := 56) (L' := [(1, .int (ea (o + 3 + 2 * v) 0)), (0, .ref (b + (o + 3 + 2 * v)))]) B (by decide) rfl dX5_level_56 ?_
      refine zv_iload_n (pc := 57) B 0 rfl dX5_level_57 ?_
      refine zv_if_le (pc := 58) (tgt := 80) B dX5_level_58 rfl (fun h3 => ?_) (fun h3 => ?_)
      · refine zv_aload_n (pc := 80) B 1 rfl dX5_level_80 ?_
        refine zv_get (pc := 81) (v := .ref (en (o + 3 + 2 * v))) B (zat (by have h9 : v < 4 := hv; have := zTk.lt ho (k := 3 + 2 * v) (by omega); omega) (zt_vc ho hv _ _ _)) cl5 inX5 5 (by decide) wf_X5_20 rfl dX5_level_81 ?_
        refine zv_get (pc := 84) (v := .int (ea (o + 3 + 2 * v) 1)) B (zaev (zae _ (zt_vc_h ho hv))) cl2 inX2 1 (by decide) wf_X5_84 rfl dX5_level_84 ?_
        refine zv_istore_n (pc := 87) (L' := [(2, .int (ea (o + 3 + 2 * v) 1)), (1, .int (ea (o + 3 + 2 * v) 0)), (0, .ref (b + (o + 3 + 2 * v)))]) B (by decide) rfl dX5_level_87 ?_
        refine zv_aload_n (pc := 88) B 2 rfl dX5_level_88 ?_
        refine zv_get (pc := 89) (v := .int (c (o + 3 + 2 * v) 10)) B (zat (by have h9 : v < 4 := hv; have := zTk.lt ho (k := 3 + 2 * v) (by omega); omega) (zt_vc ho hv _ _ _)) cl5 inX5 10 (by decide) wf_X5_51 rfl dX5_level_89 ?_
        refine zv_iload_n (pc := 92) B 1 rfl dX5_level_92 ?_
        refine zv_isub (pc := 93) B dX5_level_93 ?_
        refine zv_istore_n (pc := 94) (L' := [(3, .int ((c (o + 3 + 2 * v) 10) - (ea (o + 3 + 2 * v) 0))), (2, .int (ea (o + 3 + 2 * v) 1)), (1, .int (ea (o + 3 + 2 * v) 0)), (0, .ref (b + (o + 3 + 2 * v)))]) B (by decide) rfl dX5_level_94 ?_
        refine zv_iload_n (pc := 95) B 1 rfl dX5_level_95 ?_
        refine zv_if_le (pc := 96) (tgt := 124) B dX5_level_96 rfl (fun h4 => ?_) (fun h4 => ?_)
        · refine zv_aload_n (pc := 124) B 3 rfl dX5_level_124 ?_
          refine zv_get (pc := 125) (v := .ref (en (o + 3 + 2 * v))) B (zat (by have h9 : v < 4 := hv; have := zTk.lt ho (k := 3 + 2 * v) (by omega); omega) (zt_vc ho hv _ _ _)) cl5 inX5 5 (by decide) wf_X5_20 rfl dX5_level_125 ?_
          refine zv_get (pc := 128) (v := .int (ea (o + 3 + 2 * v) 2)) B (zaev (zae _ (zt_vc_h ho hv))) cl2 inX2 2 (by decide) wf_X5_87 rfl dX5_level_128 ?_
          have hE5 : ea (o + 3 + 2 * v) 2 = m_X5_level c ea o v := (by unfold m_X5_level; rw [if_neg h1, if_pos h2, if_pos h3, if_pos h4])
          exact zv_iret (pc := 131) B (ea (o + 3 + 2 * v) 2) hr (fun H hP => ⟨(), (congrArg (fun z => some (Value.int z)) hE5), hP⟩) (Nat.le_of_ble_eq_true rfl) (Nat.le_of_ble_eq_true rfl) dX5_level_131
        · refine zv_iload_n (pc := 99) B 0 rfl dX5_level_99 ?_
          refine zv_iload_n (pc := 100) B 1 rfl dX5_level_100 ?_
          refine zv_icmp_ge (pc := 101) (tgt := 124) B dX5_level_101 rfl (fun h6 => ?_) (fun h6 => ?_)
          · refine zv_aload_n (pc := 124) B 3 rfl dX5_level_124 ?_
            refine zv_get (pc := 125) (v := .ref (en (o + 3 + 2 * v))) B (zat (by have h9 : v < 4 := hv; have := zTk.lt ho (k := 3 + 2 * v) (by omega); omega) (zt_vc ho hv _ _ _)) cl5 inX5 5 (by decide) wf_X5_20 rfl dX5_level_125 ?_
            refine zv_get (pc := 128) (v := .int (ea (o + 3 + 2 * v) 2)) B (zaev (zae _ (zt_vc_h ho hv))) cl2 inX2 2 (by decide) wf_X5_87 rfl dX5_level_128 ?_
            have hE7 : ea (o + 3 + 2 * v) 2 = m_X5_level c ea o v := (by unfold m_X5_level; rw [if_neg h1, if_pos h2, if_pos h3, if_neg h4, if_pos h6])
            exact zv_iret (pc := 131) B (ea (o + 3 + 2 * v) 2) hr (fun H hP => ⟨(), (congrArg (fun z => some (Value.int z)) hE7), hP⟩) (Nat.le_of_ble_eq_true rfl) (Nat.le_of_ble_eq_true rfl) dX5_level_131
          · refine zv_sipush (pc := 104) (v := 1000) B rfl dX5_level_104 ?_
            refine zv_sipush (pc := 107) (v := 1000) B rfl dX5_level_107 ?_
            refine zv_aload_n (pc := 110) B 3 rfl dX5_level_110 ?_
            refine zv_get (pc := 111) (v := .ref (en (o + 3 + 2 * v))) B (zat (by have h9 : v < 4 := hv; have := zTk.lt ho (k := 3 + 2 * v) (by omega); omega) (zt_vc ho hv _ _ _)) cl5 inX5 5 (by decide) wf_X5_20 rfl dX5_level_111 ?_
            refine zv_get (pc := 114) (v := .int (ea (o + 3 + 2 * v) 2)) B (zaev (zae _ (zt_vc_h ho hv))) cl2 inX2 2 (by decide) wf_X5_87 rfl dX5_level_114 ?_
            refine zv_isub (pc := 117) B dX5_level_117 ?_
            refine zv_iload_n (pc := 118) B 0 rfl dX5_level_118 ?_
            refine zv_imul (pc := 119) B dX5_level_119 ?_
            refine zv_iload_n (pc := 120) B 1 rfl dX5_level_120 ?_
            refine zv_idiv (pc := 121) B (fun h0 => h4 (by rw [h0]; decide)) dX5_level_121 ?_
            refine zv_isub (pc := 122) B dX5_level_122 ?_
            have hE8 : 1000 - (((1000 - (ea (o + 3 + 2 * v) 2)) * ((c (o + 3 + 2 * v) 10) - (ea (o + 3 + 2 * v) 0))) / (ea (o + 3 + 2 * v) 1)) = m_X5_level c ea o v := (by unfold m_X5_level; rw [if_neg h1, if_pos h2, if_pos h3, if_neg h4, if_neg h6])
            exact zv_iret (pc := 123) B (1000 - (((1000 - (ea (o + 3 + 2 * v) 2)) * ((c (o + 3 + 2 * v) 10) - (ea (o + 3 + 2 * v) 0))) / (ea (o + 3 + 2 * v) 1))) hr (fun H hP => ⟨(), (congrArg (fun z => some (Value.int z)) hE8), hP⟩) (Nat.le_of_ble_eq_true rfl) (Nat.le_of_ble_eq_true rfl) dX5_level_123
      · refine zv_aload_n (pc := 61) B 1 rfl dX5_level_61 ?_
        refine zv_get (pc := 62) (v := .int (c (o + 3 + 2 * v) 10)) B (zat (by have h9 : v < 4 := hv; have := zTk.lt ho (k := 3 + 2 * v) (by omega); omega) (zt_vc ho hv _ _ _)) cl5 inX5 10 (by decide) wf_X5_51 rfl dX5_level_62 ?_
        refine zv_iload_n (pc := 65) B 0 rfl dX5_level_65 ?_
        refine zv_icmp_ge (pc := 66) (tgt := 80) B dX5_level_66 rfl (fun h9 => ?_) (fun h9 => ?_)
        · refine zv_aload_n (pc := 80) B 1 rfl dX5_level_80 ?_
          refine zv_get (pc := 81) (v := .ref (en (o + 3 + 2 * v))) B (zat (by have h9 : v < 4 := hv; have := zTk.lt ho (k := 3 + 2 * v) (by omega); omega) (zt_vc ho hv _ _ _)) cl5 inX5 5 (by decide) wf_X5_20 rfl dX5_level_81 ?_
          refine zv_get (pc := 84) (v := .int (ea (o + 3 + 2 * v) 1)) B (zaev (zae _ (zt_vc_h ho hv))) cl2 inX2 1 (by decide) wf_X5_84 rfl dX5_level_84 ?_
          refine zv_istore_n (pc := 87) (L' := [(2, .int (ea (o + 3 + 2 * v) 1)), (1, .int (ea (o + 3 + 2 * v) 0)), (0, .ref (b + (o + 3 + 2 * v)))]) B (by decide) rfl dX5_level_87 ?_
          refine zv_aload_n (pc := 88) B 2 rfl dX5_level_88 ?_
          refine zv_get (pc := 89) (v := .int (c (o + 3 + 2 * v) 10)) B (zat (by have h9 : v < 4 := hv; have := zTk.lt ho (k := 3 + 2 * v) (by omega); omega) (zt_vc ho hv _ _ _)) cl5 inX5 10 (by decide) wf_X5_51 rfl dX5_level_89 ?_
          refine zv_iload_n (pc := 92) B 1 rfl dX5_level_92 ?_
          refine zv_isub (pc := 93) B dX5_level_93 ?_
          refine zv_istore_n (pc := 94) (L' := [(3, .int ((c (o + 3 + 2 * v) 10) - (ea (o + 3 + 2 * v) 0))), (2, .int (ea (o + 3 + 2 * v) 1)), (1, .int (ea (o + 3 + 2 * v) 0)), (0, .ref (b + (o + 3 + 2 * v)))]) B (by decide) rfl dX5_level_94 ?_
          refine zv_iload_n (pc := 95) B 1 rfl dX5_level_95 ?_
          refine zv_if_le (pc := 96) (tgt := 124) B dX5_level_96 rfl (fun h10 => ?_) (fun h10 => ?_)
          · refine zv_aload_n (pc := 124) B 3 rfl dX5_level_124 ?_
            refine zv_get (pc := 125) (v := .ref (en (o + 3 + 2 * v))) B (zat (by have h9 : v < 4 := hv; have := zTk.lt ho (k := 3 + 2 * v) (by omega); omega) (zt_vc ho hv _ _ _)) cl5 inX5 5 (by decide) wf_X5_20 rfl dX5_level_125 ?_
            refine zv_get (pc := 128) (v := .int (ea (o + 3 + 2 * v) 2)) B (zaev (zae _ (zt_vc_h ho hv))) cl2 inX2 2 (by decide) wf_X5_87 rfl dX5_level_128 ?_
            have hE11 : ea (o + 3 + 2 * v) 2 = m_X5_level c ea o v := (by unfold m_X5_level; rw [if_neg h1, if_pos h2, if_neg h3, if_pos h9, if_pos h10])
            exact zv_iret (pc := 131) B (ea (o + 3 + 2 * v) 2) hr (fun H hP => ⟨(), (congrArg (fun z => some (Value.int z)) hE11), hP⟩) (Nat.le_of_ble_eq_true rfl) (Nat.le_of_ble_eq_true rfl) dX5_level_131
          · refine zv_iload_n (pc := 99) B 0 rfl dX5_level_99 ?_
            refine zv_iload_n (pc := 100) B 1 rfl dX5_level_100 ?_
            refine zv_icmp_ge (pc := 101) (tgt := 124) B dX5_level_101 rfl (fun h12 => ?_) (fun h12 => ?_)
            · refine zv_aload_n (pc := 124) B 3 rfl dX5_level_124 ?_
              refine zv_get (pc := 125) (v := .ref (en (o + 3 + 2 * v))) B (zat (by have h9 : v < 4 := hv; have := zTk.lt ho (k := 3 + 2 * v) (by omega); omega) (zt_vc ho hv _ _ _)) cl5 inX5 5 (by decide) wf_X5_20 rfl dX5_level_125 ?_
              refine zv_get (pc := 128) (v := .int (ea (o + 3 + 2 * v) 2)) B (zaev (zae _ (zt_vc_h ho hv))) cl2 inX2 2 (by decide) wf_X5_87 rfl dX5_level_128 ?_
              have hE13 : ea (o + 3 + 2 * v) 2 = m_X5_level c ea o v := (by unfold m_X5_level; rw [if_neg h1, if_pos h2, if_neg h3, if_pos h9, if_neg h10, if_pos h12])
              exact zv_iret (pc := 131) B (ea (o + 3 + 2 * v) 2) hr (fun H hP => ⟨(), (congrArg (fun z => some (Value.int z)) hE13), hP⟩) (Nat.le_of_ble_eq_true rfl) (Nat.le_of_ble_eq_true rfl) dX5_level_131
            · refine zv_sipush (pc := 104) (v := 1000) B rfl dX5_level_104 ?_
              refine zv_sipush (pc := 107) (v := 1000) B rfl dX5_level_107 ?_
              refine zv_aload_n (pc := 110) B 3 rfl dX5_level_110 ?_
              refine zv_get (pc := 111) (v := .ref (en (o + 3 + 2 * v))) B (zat (by have h9 : v < 4 := hv; have := zTk.lt ho (k := 3 + 2 * v) (by omega); omega) (zt_vc ho hv _ _ _)) cl5 inX5 5 (by decide) wf_X5_20 rfl dX5_level_111 ?_
              refine zv_get (pc := 114) (v := .int (ea (o + 3 + 2 * v) 2)) B (zaev (zae _ (zt_vc_h ho hv))) cl2 inX2 2 (by decide) wf_X5_87 rfl dX5_level_114 ?_
              refine zv_isub (pc := 117) B dX5_level_117 ?_
              refine zv_iload_n (pc := 118) B 0 rfl dX5_level_118 ?_
              refine zv_imul (pc := 119) B dX5_level_119 ?_
              refine zv_iload_n (pc := 120) B 1 rfl dX5_level_120 ?_
              refine zv_idiv (pc := 121) B (fun h0 => h10 (by rw [h0]; decide)) dX5_level_121 ?_
              refine zv_isub (pc := 122) B dX5_level_122 ?_
              have hE14 : 1000 - (((1000 - (ea (o + 3 + 2 * v) 2)) * ((c (o + 3 + 2 * v) 10) - (ea (o + 3 + 2 * v) 0))) / (ea (o + 3 + 2 * v) 1)) = m_X5_level c ea o v := (by unfold m_X5_level; rw [if_neg h1, if_pos h2, if_neg h3, if_pos h9, if_neg h10, if_neg h12])
              exact zv_iret (pc := 123) B (1000 - (((1000 - (ea (o + 3 + 2 * v) 2)) * ((c (o + 3 + 2 * v) 10) - (ea (o + 3 + 2 * v) 0))) / (ea (o + 3 + 2 * v) 1))) hr (fun H hP => ⟨(), (congrArg (fun z => some (Value.int z)) hE14), hP⟩) (Nat.le_of_ble_eq_true rfl) (Nat.le_of_ble_eq_true rfl) dX5_level_123
        · refine zv_sipush (pc := 69) (v := 1000) B rfl dX5_level_69 ?_
          refine zv_aload_n (pc := 72) B 1 rfl dX5_level_72 ?_
          refine zv_get (pc := 73) (v := .int (c (o + 3 + 2 * v) 10)) B (zat (by have h9 : v < 4 := hv; have := zTk.lt ho (k := 3 + 2 * v) (by omega); omega) (zt_vc ho hv _ _ _)) cl5 inX5 10 (by decide) wf_X5_51 rfl dX5_level_73 ?_
          refine zv_imul (pc := 76) B dX5_level_76 ?_
          refine zv_iload_n (pc := 77) B 0 rfl dX5_level_77 ?_
          refine zv_idiv (pc := 78) B (fun h0 => h3 (by rw [h0]; decide)) dX5_level_78 ?_
          have hE15 : (1000 * (c (o + 3 + 2 * v) 10)) / (ea (o + 3 + 2 * v) 0) = m_X5_level c ea o v := (by unfold m_X5_level; rw [if_neg h1, if_pos h2, if_neg h3, if_neg h9])
          exact zv_iret (pc := 79) B ((1000 * (c (o + 3 + 2 * v) 10)) / (ea (o + 3 + 2 * v) 0)) hr (fun H hP => ⟨(), (congrArg (fun z => some (Value.int z)) hE15), hP⟩) (Nat.le_of_ble_eq_true rfl) (Nat.le_of_ble_eq_true rfl) dX5_level_79
    · refine zv_aload_n (pc := 16) B 0 rfl dX5_level_16 ?_
      refine zv_get (pc := 17) (v := .ref (en (o + 3 + 2 * v))) B (zat (by have h9 : v < 4 := hv; have := zTk.lt ho (k := 3 + 2 * v) (by omega); omega) (zt_vc ho hv _ _ _)) cl5 inX5 5 (by decide) wf_X5_20 rfl dX5_level_17 ?_
      refine zv_get (pc := 20) (v := .int (ea (o + 3 + 2 * v) 3)) B (zaev (zae _ (zt_vc_h ho hv))) cl2 inX2 3 (by decide) wf_X5_67 rfl dX5_level_20 ?_
      refine zv_istore_n (pc := 23) (L' := [(1, .int (ea (o + 3 + 2 * v) 3)), (0, .ref (b + (o + 3 + 2 * v)))]) B (by decide) rfl dX5_level_23 ?_
      refine zv_iload_n (pc := 24) B 0 rfl dX5_level_24 ?_
      refine zv_if_le (pc := 25) (tgt := 47) B dX5_level_25 rfl (fun h16 => ?_) (fun h16 => ?_)
      · refine zv_iconst (pc := 47) (v := 0) B rfl dX5_level_47 ?_
        have hE17 : 0 = m_X5_level c ea o v := (by unfold m_X5_level; rw [if_neg h1, if_neg h2, if_pos h16])
        exact zv_iret (pc := 48) B (0) hr (fun H hP => ⟨(), (congrArg (fun z => some (Value.int z)) hE17), hP⟩) (Nat.le_of_ble_eq_true rfl) (Nat.le_of_ble_eq_true rfl) dX5_level_48
      · refine zv_aload_n (pc := 28) B 1 rfl dX5_level_28 ?_
        refine zv_get (pc := 29) (v := .int (c (o + 3 + 2 * v) 11)) B (zat (by have h9 : v < 4 := hv; have := zTk.lt ho (k := 3 + 2 * v) (by omega); omega) (zt_vc ho hv _ _ _)) cl5 inX5 11 (by decide) wf_X5_58 rfl dX5_level_29 ?_
        refine zv_aload_n (pc := 32) B 1 rfl dX5_level_32 ?_
        refine zv_get (pc := 33) (v := .int (c (o + 3 + 2 * v) 11)) B (zat (by have h9 : v < 4 := hv; have := zTk.lt ho (k := 3 + 2 * v) (by omega); omega) (zt_vc ho hv _ _ _)) cl5 inX5 11 (by decide) wf_X5_58 rfl dX5_level_33 ?_
        refine zv_aload_n (pc := 36) B 1 rfl dX5_level_36 ?_
        refine zv_get (pc := 37) (v := .int (c (o + 3 + 2 * v) 12)) B (zat (by have h9 : v < 4 := hv; have := zTk.lt ho (k := 3 + 2 * v) (by omega); omega) (zt_vc ho hv _ _ _)) cl5 inX5 12 (by decide) wf_X5_61 rfl dX5_level_37 ?_
        refine zv_imul (pc := 40) B dX5_level_40 ?_
        refine zv_iload_n (pc := 41) B 0 rfl dX5_level_41 ?_
        refine zv_idiv (pc := 42) B (fun h0 => h16 (by rw [h0]; decide)) dX5_level_42 ?_
        refine zv_isub (pc := 43) B dX5_level_43 ?_
        refine zv_goto (pc := 44) (tgt := 48) B rfl dX5_level_44 ?_
        have hE18 : (c (o + 3 + 2 * v) 11) - (((c (o + 3 + 2 * v) 11) * (c (o + 3 + 2 * v) 12)) / (ea (o + 3 + 2 * v) 3)) = m_X5_level c ea o v := (by unfold m_X5_level; rw [if_neg h1, if_neg h2, if_neg h16])
        exact zv_iret (pc := 48) B ((c (o + 3 + 2 * v) 11) - (((c (o + 3 + 2 * v) 11) * (c (o + 3 + 2 * v) 12)) / (ea (o + 3 + 2 * v) 3))) hr (fun H hP => ⟨(), (congrArg (fun z => some (Value.int z)) hE18), hP⟩) (Nat.le_of_ble_eq_true rfl) (Nat.le_of_ble_eq_true rfl) dX5_level_48
  · refine zv_iconst (pc := 7) (v := 0) B rfl dX5_level_7 ?_
    have hE19 : 0 = m_X5_level c ea o v := (by unfold m_X5_level; rw [if_pos h1])
    exact zv_iret (pc := 8) B (0) hr (fun H hP => ⟨(), (congrArg (fun z => some (Value.int z)) hE19), hP⟩) (Nat.le_of_ble_eq_true rfl) (Nat.le_of_ble_eq_true rfl) dX5_level_8

def m_X5_stage (c : Nat → Nat → Int32) (ea : Nat → Nat → Int32) (o v : Nat) : Int32 := if (c (o + 3 + 2 * v) 0) = 0 then 102 else (if (c (o + 3 + 2 * v) 1) = 0 then (if (ea (o + 3 + 2 * v) 0) ≤ (c (o + 3 + 2 * v) 10) then (if (ea (o + 3 + 2 * v) 1) ≤ ((c (o + 3 + 2 * v) 10) - (ea (o + 3 + 2 * v) 0)) then 115 else 100) else 97) else 114)
set_option maxRecDepth 100000 in
set_option maxHeartbeats 4000000 in
theorem k_X5_stage (l : Launch) (E : zE) (b : Nat) (c : Nat → Nat → Int32) (w : Nat → Int64) (en : Nat → Nat) (ea : Nat → Nat → Int32) {o v : Nat} (ho : zTk o) (hv : v < 4) : zM l yX5_stage (.code yX5_stage cX5_stage 1 (some .char) :: zAll) (zRm 0 0 0) E b [.ref (b + (o + 3 + 2 * v))] (zH E b c w en ea) (fun v9 (_ : Unit) => v9 = some (.int (m_X5_stage c ea o v))) (fun _ => zH E b c w en ea) 0 0 := by
  refine zM_of "ToneGraph$Voice" (by decide) rfl rfl (Nat.le_of_ble_eq_true rfl) (L0 := [(0, .ref (b + (o + 3 + 2 * v)))]) rfl ?_
  intro p e s m args below meth c9 B hr hname
  have ho9 : o = 34 ∨ o = 70 := ho
  refine zv_aload_n (pc := 0) B 0 rfl dX5_stage_0 ?_
  refine zv_get (pc := 1) (v := .int (c (o + 3 + 2 * v) 0)) B (zat (by have h9 : v < 4 := hv; have := zTk.lt ho (k := 3 + 2 * v) (by omega); omega) (zt_vc ho hv _ _ _)) cl5 inX5 0 (by decide) wf_X5_24 rfl dX5_stage_1 ?_
  refine zv_if_ne (pc := 4) (tgt := 10) B dX5_stage_4 rfl (fun h1 => ?_) (fun h1 => ?_)
  · refine zv_aload_n (pc := 10) B 0 rfl dX5_stage_10 ?_
    refine zv_get (pc := 11) (v := .int (c (o + 3 + 2 * v) 1)) B (zat (by have h9 : v < 4 := hv; have := zTk.lt ho (k := 3 + 2 * v) (by omega); omega) (zt_vc ho hv _ _ _)) cl5 inX5 1 (by decide) wf_X5_28 rfl dX5_stage_11 ?_
    refine zv_if_eq (pc := 14) (tgt := 20) B dX5_stage_14 rfl (fun h2 => ?_) (fun h2 => ?_)
    · refine zv_aload_n (pc := 20) B 0 rfl dX5_stage_20 ?_
      refine zv_get (pc := 21) (v := .int (c (o + 3 + 2 * v) 10)) B (zat (by have h9 : v < 4 := hv; have := zTk.lt ho (k := 3 + 2 * v) (by omega); omega) (zt_vc ho hv _ _ _)) cl5 inX5 10 (by decide) wf_X5_51 rfl dX5_stage_21 ?_
      refine zv_aload_n (pc := 24) B 0 rfl dX5_stage_24 ?_
      refine zv_get (pc := 25) (v := .ref (en (o + 3 + 2 * v))) B (zat (by have h9 : v < 4 := hv; have := zTk.lt ho (k := 3 + 2 * v) (by omega); omega) (zt_vc ho hv _ _ _)) cl5 inX5 5 (by decide) wf_X5_20 rfl dX5_stage_25 ?_
      refine zv_get (pc := 28) (v := .int (ea (o + 3 + 2 * v) 0)) B (zaev (zae _ (zt_vc_h ho hv))) cl2 inX2 0 (by decide) wf_X5_81 rfl dX5_stage_28 ?_
      refine zv_icmp_ge (pc := 31) (tgt := 37) B dX5_stage_31 rfl (fun h3 => ?_) (fun h3 => ?_)
      · refine zv_aload_n (pc := 37) B 0 rfl dX5_stage_37 ?_
        refine zv_get (pc := 38) (v := .int (c (o + 3 + 2 * v) 10)) B (zat (by have h9 : v < 4 := hv; have := zTk.lt ho (k := 3 + 2 * v) (by omega); omega) (zt_vc ho hv _ _ _)) cl5 inX5 10 (by decide) wf_X5_51 rfl dX5_stage_38 ?_
        refine zv_aload_n (pc := 41) B 0 rfl dX5_stage_41 ?_
        refine zv_get (pc := 42) (v := .ref (en (o + 3 + 2 * v))) B (zat (by have h9 : v < 4 := hv; have := zTk.lt ho (k := 3 + 2 * v) (by omega); omega) (zt_vc ho hv _ _ _)) cl5 inX5 5 (by decide) wf_X5_20 rfl dX5_stage_42 ?_
        refine zv_get (pc := 45) (v := .int (ea (o + 3 + 2 * v) 0)) B (zaev (zae _ (zt_vc_h ho hv))) cl2 inX2 0 (by decide) wf_X5_81 rfl dX5_stage_45 ?_
        refine zv_isub (pc := 48) B dX5_stage_48 ?_
        refine zv_aload_n (pc := 49) B 0 rfl dX5_stage_49 ?_
        refine zv_get (pc := 50) (v := .ref (en (o + 3 + 2 * v))) B (zat (by have h9 : v < 4 := hv; have := zTk.lt ho (k := 3 + 2 * v) (by omega); omega) (zt_vc ho hv _ _ _)) cl5 inX5 5 (by decide) wf_X5_20 rfl dX5_stage_50 ?_
        refine zv_get (pc := 53) (v := .int (ea (o + 3 + 2 * v) 1)) B (zaev (zae _ (zt_vc_h ho hv))) cl2 inX2 1 (by decide) wf_X5_84 rfl dX5_stage_53 ?_
        refine zv_icmp_ge (pc := 56) (tgt := 64) B dX5_stage_56 rfl (fun h4 => ?_) (fun h4 => ?_)
        · refine zv_bipush (pc := 64) (v := 115) B rfl dX5_stage_64 ?_
          have hE5 : 115 = m_X5_stage c ea o v := (by unfold m_X5_stage; rw [if_neg h1, if_pos h2, if_pos h3, if_pos h4])
          exact zv_zret (pc := 66) B (115) rfl hr (fun H hP => ⟨(), (congrArg (fun z => some (Value.int z)) hE5), hP⟩) (Nat.le_of_ble_eq_true rfl) (Nat.le_of_ble_eq_true rfl) dX5_stage_66
        · refine zv_bipush (pc := 59) (v := 100) B rfl dX5_stage_59 ?_
          refine zv_goto (pc := 61) (tgt := 66) B rfl dX5_stage_61 ?_
          have hE6 : 100 = m_X5_stage c ea o v := (by unfold m_X5_stage; rw [if_neg h1, if_pos h2, if_pos h3, if_neg h4])
          exact zv_zret (pc := 66) B (100) rfl hr (fun H hP => ⟨(), (congrArg (fun z => some (Value.int z)) hE6), hP⟩) (Nat.le_of_ble_eq_true rfl) (Nat.le_of_ble_eq_true rfl) dX5_stage_66
      · refine zv_bipush (pc := 34) (v := 97) B rfl dX5_stage_34 ?_
        have hE7 : 97 = m_X5_stage c ea o v := (by unfold m_X5_stage; rw [if_neg h1, if_pos h2, if_neg h3])
        exact zv_zret (pc := 36) B (97) rfl hr (fun H hP => ⟨(), (congrArg (fun z => some (Value.int z)) hE7), hP⟩) (Nat.le_of_ble_eq_true rfl) (Nat.le_of_ble_eq_true rfl) dX5_stage_36
    · refine zv_bipush (pc := 17) (v := 114) B rfl dX5_stage_17 ?_
      have hE8 : 114 = m_X5_stage c ea o v := (by unfold m_X5_stage; rw [if_neg h1, if_neg h2])
      exact zv_zret (pc := 19) B (114) rfl hr (fun H hP => ⟨(), (congrArg (fun z => some (Value.int z)) hE8), hP⟩) (Nat.le_of_ble_eq_true rfl) (Nat.le_of_ble_eq_true rfl) dX5_stage_19
  · refine zv_bipush (pc := 7) (v := 102) B rfl dX5_stage_7 ?_
    have hE9 : 102 = m_X5_stage c ea o v := (by unfold m_X5_stage; rw [if_pos h1])
    exact zv_zret (pc := 9) B (102) rfl hr (fun H hP => ⟨(), (congrArg (fun z => some (Value.int z)) hE9), hP⟩) (Nat.le_of_ble_eq_true rfl) (Nat.le_of_ble_eq_true rfl) dX5_stage_9

def m_X5_waveValue (c : Nat → Nat → Int32) (ea : Nat → Nat → Int32) (o v : Nat) : Int32 := if (c (o + 3 + 2 * v) 4) = 113 then (if 32768 ≤ (c (o + 3 + 2 * v) 7) then (-1000) else 1000) else (if (c (o + 3 + 2 * v) 4) = 116 then (if 32768 ≤ (c (o + 3 + 2 * v) 7) then (((65535 - (c (o + 3 + 2 * v) 7)) / 16) - 1024) else (((c (o + 3 + 2 * v) 7) / 16) - 1024)) else (((c (o + 3 + 2 * v) 7) / 32) - 1024))
set_option maxRecDepth 100000 in
set_option maxHeartbeats 4000000 in
theorem k_X5_waveValue (l : Launch) (E : zE) (b : Nat) (c : Nat → Nat → Int32) (w : Nat → Int64) (en : Nat → Nat) (ea : Nat → Nat → Int32) {o v : Nat} (ho : zTk o) (hv : v < 4) : zM l yX5_waveValue (.code yX5_waveValue cX5_waveValue 2 (some .int) :: zAll) (zRm 0 0 0) E b [.ref (b + (o + 3 + 2 * v))] (zH E b c w en ea) (fun v9 (_ : Unit) => v9 = some (.int (m_X5_waveValue c ea o v))) (fun _ => zH E b c w en ea) 0 0 := by
  refine zM_of "ToneGraph$Voice" (by decide) rfl rfl (Nat.le_of_ble_eq_true rfl) (L0 := [(0, .ref (b + (o + 3 + 2 * v)))]) rfl ?_
  intro p e s m args below meth c9 B hr hname
  have ho9 : o = 34 ∨ o = 70 := ho
  refine zv_aload_n (pc := 0) B 0 rfl dX5_waveValue_0 ?_
  refine zv_get (pc := 1) (v := .int (c (o + 3 + 2 * v) 4)) B (zat (by have h9 : v < 4 := hv; have := zTk.lt ho (k := 3 + 2 * v) (by omega); omega) (zt_vc ho hv _ _ _)) cl5 inX5 4 (by decide) wf_X5_9 rfl dX5_waveValue_1 ?_
  refine zv_bipush (pc := 4) (v := 113) B rfl dX5_waveValue_4 ?_
  refine zv_icmp_ne (pc := 6) (tgt := 28) B dX5_waveValue_6 rfl (fun h1 => ?_) (fun h1 => ?_)
  · refine zv_aload_n (pc := 28) B 0 rfl dX5_waveValue_28 ?_
    refine zv_get (pc := 29) (v := .int (c (o + 3 + 2 * v) 4)) B (zat (by have h9 : v < 4 := hv; have := zTk.lt ho (k := 3 + 2 * v) (by omega); omega) (zt_vc ho hv _ _ _)) cl5 inX5 4 (by decide) wf_X5_9 rfl dX5_waveValue_29 ?_
    refine zv_bipush (pc := 32) (v := 116) B rfl dX5_waveValue_32 ?_
    refine zv_icmp_ne (pc := 34) (tgt := 70) B dX5_waveValue_34 rfl (fun h2 => ?_) (fun h2 => ?_)
    · refine zv_aload_n (pc := 70) B 0 rfl dX5_waveValue_70 ?_
      refine zv_get (pc := 71) (v := .int (c (o + 3 + 2 * v) 7)) B (zat (by have h9 : v < 4 := hv; have := zTk.lt ho (k := 3 + 2 * v) (by omega); omega) (zt_vc ho hv _ _ _)) cl5 inX5 7 (by decide) wf_X5_45 rfl dX5_waveValue_71 ?_
      refine zv_bipush (pc := 74) (v := 32) B rfl dX5_waveValue_74 ?_
      refine zv_idiv (pc := 76) B (by decide) dX5_waveValue_76 ?_
      refine zv_sipush (pc := 77) (v := 1024) B rfl dX5_waveValue_77 ?_
      refine zv_isub (pc := 80) B dX5_waveValue_80 ?_
      have hE3 : ((c (o + 3 + 2 * v) 7) / 32) - 1024 = m_X5_waveValue c ea o v := (by unfold m_X5_waveValue; rw [if_neg h1, if_neg h2])
      exact zv_iret (pc := 81) B (((c (o + 3 + 2 * v) 7) / 32) - 1024) hr (fun H hP => ⟨(), (congrArg (fun z => some (Value.int z)) hE3), hP⟩) (Nat.le_of_ble_eq_true rfl) (Nat.le_of_ble_eq_true rfl) dX5_waveValue_81
    · refine zv_aload_n (pc := 37) B 0 rfl dX5_waveValue_37 ?_
      refine zv_get (pc := 38) (v := .int (c (o + 3 + 2 * v) 7)) B (zat (by have h9 : v < 4 := hv; have := zTk.lt ho (k := 3 + 2 * v) (by omega); omega) (zt_vc ho hv _ _ _)) cl5 inX5 7 (by decide) wf_X5_45 rfl dX5_waveValue_38 ?_
      refine zv_ldc (pc := 41) (v := 32768) B (B.at wk_X5_90) dX5_waveValue_41 ?_
      refine zv_icmp_ge (pc := 43) (tgt := 53) B dX5_waveValue_43 rfl (fun h4 => ?_) (fun h4 => ?_)
      · refine zv_ldc (pc := 53) (v := 65535) B (B.at wk_X5_80) dX5_waveValue_53 ?_
        refine zv_aload_n (pc := 55) B 0 rfl dX5_waveValue_55 ?_
        refine zv_get (pc := 56) (v := .int (c (o + 3 + 2 * v) 7)) B (zat (by have h9 : v < 4 := hv; have := zTk.lt ho (k := 3 + 2 * v) (by omega); omega) (zt_vc ho hv _ _ _)) cl5 inX5 7 (by decide) wf_X5_45 rfl dX5_waveValue_56 ?_
        refine zv_isub (pc := 59) B dX5_waveValue_59 ?_
        refine zv_istore_n (pc := 60) (L' := [(1, .int (65535 - (c (o + 3 + 2 * v) 7))), (0, .ref (b + (o + 3 + 2 * v)))]) B (by decide) rfl dX5_waveValue_60 ?_
        refine zv_iload_n (pc := 61) B 0 rfl dX5_waveValue_61 ?_
        refine zv_bipush (pc := 62) (v := 16) B rfl dX5_waveValue_62 ?_
        refine zv_idiv (pc := 64) B (by decide) dX5_waveValue_64 ?_
        refine zv_sipush (pc := 65) (v := 1024) B rfl dX5_waveValue_65 ?_
        refine zv_isub (pc := 68) B dX5_waveValue_68 ?_
        have hE5 : ((65535 - (c (o + 3 + 2 * v) 7)) / 16) - 1024 = m_X5_waveValue c ea o v := (by unfold m_X5_waveValue; rw [if_neg h1, if_pos h2, if_pos h4])
        exact zv_iret (pc := 69) B (((65535 - (c (o + 3 + 2 * v) 7)) / 16) - 1024) hr (fun H hP => ⟨(), (congrArg (fun z => some (Value.int z)) hE5), hP⟩) (Nat.le_of_ble_eq_true rfl) (Nat.le_of_ble_eq_true rfl) dX5_waveValue_69
      · refine zv_aload_n (pc := 46) B 0 rfl dX5_waveValue_46 ?_
        refine zv_get (pc := 47) (v := .int (c (o + 3 + 2 * v) 7)) B (zat (by have h9 : v < 4 := hv; have := zTk.lt ho (k := 3 + 2 * v) (by omega); omega) (zt_vc ho hv _ _ _)) cl5 inX5 7 (by decide) wf_X5_45 rfl dX5_waveValue_47 ?_
        refine zv_goto (pc := 50) (tgt := 60) B rfl dX5_waveValue_50 ?_
        refine zv_istore_n (pc := 60) (L' := [(1, .int (c (o + 3 + 2 * v) 7)), (0, .ref (b + (o + 3 + 2 * v)))]) B (by decide) rfl dX5_waveValue_60 ?_
        refine zv_iload_n (pc := 61) B 0 rfl dX5_waveValue_61 ?_
        refine zv_bipush (pc := 62) (v := 16) B rfl dX5_waveValue_62 ?_
        refine zv_idiv (pc := 64) B (by decide) dX5_waveValue_64 ?_
        refine zv_sipush (pc := 65) (v := 1024) B rfl dX5_waveValue_65 ?_
        refine zv_isub (pc := 68) B dX5_waveValue_68 ?_
        have hE6 : ((c (o + 3 + 2 * v) 7) / 16) - 1024 = m_X5_waveValue c ea o v := (by unfold m_X5_waveValue; rw [if_neg h1, if_pos h2, if_neg h4])
        exact zv_iret (pc := 69) B (((c (o + 3 + 2 * v) 7) / 16) - 1024) hr (fun H hP => ⟨(), (congrArg (fun z => some (Value.int z)) hE6), hP⟩) (Nat.le_of_ble_eq_true rfl) (Nat.le_of_ble_eq_true rfl) dX5_waveValue_69
  · refine zv_aload_n (pc := 9) B 0 rfl dX5_waveValue_9 ?_
    refine zv_get (pc := 10) (v := .int (c (o + 3 + 2 * v) 7)) B (zat (by have h9 : v < 4 := hv; have := zTk.lt ho (k := 3 + 2 * v) (by omega); omega) (zt_vc ho hv _ _ _)) cl5 inX5 7 (by decide) wf_X5_45 rfl dX5_waveValue_10 ?_
    refine zv_ldc (pc := 13) (v := 32768) B (B.at wk_X5_90) dX5_waveValue_13 ?_
    refine zv_icmp_ge (pc := 15) (tgt := 24) B dX5_waveValue_15 rfl (fun h7 => ?_) (fun h7 => ?_)
    · refine zv_sipush (pc := 24) (v := (-1000)) B rfl dX5_waveValue_24 ?_
      have hE8 : (-1000) = m_X5_waveValue c ea o v := (by unfold m_X5_waveValue; rw [if_pos h1, if_pos h7])
      exact zv_iret (pc := 27) B ((-1000)) hr (fun H hP => ⟨(), (congrArg (fun z => some (Value.int z)) hE8), hP⟩) (Nat.le_of_ble_eq_true rfl) (Nat.le_of_ble_eq_true rfl) dX5_waveValue_27
    · refine zv_sipush (pc := 18) (v := 1000) B rfl dX5_waveValue_18 ?_
      refine zv_goto (pc := 21) (tgt := 27) B rfl dX5_waveValue_21 ?_
      have hE9 : 1000 = m_X5_waveValue c ea o v := (by unfold m_X5_waveValue; rw [if_pos h1, if_neg h7])
      exact zv_iret (pc := 27) B (1000) hr (fun H hP => ⟨(), (congrArg (fun z => some (Value.int z)) hE9), hP⟩) (Nat.le_of_ble_eq_true rfl) (Nat.le_of_ble_eq_true rfl) dX5_waveValue_27

def m_X5_holds (c : Nat → Nat → Int32) (ea : Nat → Nat → Int32) (o v : Nat) (x : Int32) : Int32 := if (c (o + 3 + 2 * v) 0) = 0 then 0 else (if (c (o + 3 + 2 * v) 1) = 0 then (if x = (-1) then 1 else (if x = (c (o + 3 + 2 * v) 2) then 1 else 0)) else 0)
set_option maxRecDepth 100000 in
set_option maxHeartbeats 4000000 in
theorem k_X5_holds (l : Launch) (E : zE) (b : Nat) (c : Nat → Nat → Int32) (w : Nat → Int64) (en : Nat → Nat) (ea : Nat → Nat → Int32) {o v : Nat} (ho : zTk o) (hv : v < 4) (x : Int32) : zM l yX5_holds (.code yX5_holds cX5_holds 2 (some .boolean) :: zAll) (zRm 0 0 0) E b [.ref (b + (o + 3 + 2 * v)), .int x] (zH E b c w en ea) (fun v9 (_ : Unit) => v9 = some (.int (m_X5_holds c ea o v x))) (fun _ => zH E b c w en ea) 0 0 := by
  refine zM_of "ToneGraph$Voice" (by decide) rfl rfl (Nat.le_of_ble_eq_true rfl) (L0 := [(0, .ref (b + (o + 3 + 2 * v))), (1, .int x)]) rfl ?_
  intro p e s m args below meth c9 B hr hname
  have ho9 : o = 34 ∨ o = 70 := ho
  refine zv_aload_n (pc := 0) B 0 rfl dX5_holds_0 ?_
  refine zv_get (pc := 1) (v := .int (c (o + 3 + 2 * v) 0)) B (zat (by have h9 : v < 4 := hv; have := zTk.lt ho (k := 3 + 2 * v) (by omega); omega) (zt_vc ho hv _ _ _)) cl5 inX5 0 (by decide) wf_X5_24 rfl dX5_holds_1 ?_
  refine zv_if_eq (pc := 4) (tgt := 31) B dX5_holds_4 rfl (fun h1 => ?_) (fun h1 => ?_)
  · refine zv_iconst (pc := 31) (v := 0) B rfl dX5_holds_31 ?_
    have hE2 : 0 = m_X5_holds c ea o v x := (by unfold m_X5_holds; rw [if_pos h1])
    exact zv_zret (pc := 32) B (0) rfl hr (fun H hP => ⟨(), (congrArg (fun z => some (Value.int z)) hE2), hP⟩) (Nat.le_of_ble_eq_true rfl) (Nat.le_of_ble_eq_true rfl) dX5_holds_32
  · refine zv_aload_n (pc := 7) B 0 rfl dX5_holds_7 ?_
    refine zv_get (pc := 8) (v := .int (c (o + 3 + 2 * v) 1)) B (zat (by have h9 : v < 4 := hv; have := zTk.lt ho (k := 3 + 2 * v) (by omega); omega) (zt_vc ho hv _ _ _)) cl5 inX5 1 (by decide) wf_X5_28 rfl dX5_holds_8 ?_
    refine zv_if_ne (pc := 11) (tgt := 31) B dX5_holds_11 rfl (fun h3 => ?_) (fun h3 => ?_)
    · refine zv_iconst (pc := 31) (v := 0) B rfl dX5_holds_31 ?_
      have hE4 : 0 = m_X5_holds c ea o v x := (by unfold m_X5_holds; rw [if_neg h1, if_neg h3])
      exact zv_zret (pc := 32) B (0) rfl hr (fun H hP => ⟨(), (congrArg (fun z => some (Value.int z)) hE4), hP⟩) (Nat.le_of_ble_eq_true rfl) (Nat.le_of_ble_eq_true rfl) dX5_holds_32
    · refine zv_iload_n (pc := 14) B 1 rfl dX5_holds_14 ?_
      refine zv_iconst (pc := 15) (v := (-1)) B rfl dX5_holds_15 ?_
      refine zv_icmp_eq (pc := 16) (tgt := 27) B dX5_holds_16 rfl (fun h5 => ?_) (fun h5 => ?_)
      · refine zv_iconst (pc := 27) (v := 1) B rfl dX5_holds_27 ?_
        refine zv_goto (pc := 28) (tgt := 32) B rfl dX5_holds_28 ?_
        have hE6 : 1 = m_X5_holds c ea o v x := (by unfold m_X5_holds; rw [if_neg h1, if_pos h3, if_pos h5])
        exact zv_zret (pc := 32) B (1) rfl hr (fun H hP => ⟨(), (congrArg (fun z => some (Value.int z)) hE6), hP⟩) (Nat.le_of_ble_eq_true rfl) (Nat.le_of_ble_eq_true rfl) dX5_holds_32
      · refine zv_iload_n (pc := 19) B 1 rfl dX5_holds_19 ?_
        refine zv_aload_n (pc := 20) B 0 rfl dX5_holds_20 ?_
        refine zv_get (pc := 21) (v := .int (c (o + 3 + 2 * v) 2)) B (zat (by have h9 : v < 4 := hv; have := zTk.lt ho (k := 3 + 2 * v) (by omega); omega) (zt_vc ho hv _ _ _)) cl5 inX5 2 (by decide) wf_X5_31 rfl dX5_holds_21 ?_
        refine zv_icmp_ne (pc := 24) (tgt := 31) B dX5_holds_24 rfl (fun h7 => ?_) (fun h7 => ?_)
        · refine zv_iconst (pc := 31) (v := 0) B rfl dX5_holds_31 ?_
          have hE8 : 0 = m_X5_holds c ea o v x := (by unfold m_X5_holds; rw [if_neg h1, if_pos h3, if_neg h5, if_neg h7])
          exact zv_zret (pc := 32) B (0) rfl hr (fun H hP => ⟨(), (congrArg (fun z => some (Value.int z)) hE8), hP⟩) (Nat.le_of_ble_eq_true rfl) (Nat.le_of_ble_eq_true rfl) dX5_holds_32
        · refine zv_iconst (pc := 27) (v := 1) B rfl dX5_holds_27 ?_
          refine zv_goto (pc := 28) (tgt := 32) B rfl dX5_holds_28 ?_
          have hE9 : 1 = m_X5_holds c ea o v x := (by unfold m_X5_holds; rw [if_neg h1, if_pos h3, if_neg h5, if_pos h7])
          exact zv_zret (pc := 32) B (1) rfl hr (fun H hP => ⟨(), (congrArg (fun z => some (Value.int z)) hE9), hP⟩) (Nat.le_of_ble_eq_true rfl) (Nat.le_of_ble_eq_true rfl) dX5_holds_32

def m_X5_moveOn (c : Nat → Nat → Int32) (ea : Nat → Nat → Int32) (o v : Nat) : (Nat → Nat → Int32) := if (c (o + 3 + 2 * v) 1) = 0 then (zup (zup c (o + 3 + 2 * v) 7 (((c (o + 3 + 2 * v) 7) + (c (o + 3 + 2 * v) 6)) &&& 65535)) (o + 3 + 2 * v) 10 ((c (o + 3 + 2 * v) 10) + 1)) else (if (ea (o + 3 + 2 * v) 3) ≤ ((c (o + 3 + 2 * v) 12) + 1) then (zup (zup (zup c (o + 3 + 2 * v) 7 (((c (o + 3 + 2 * v) 7) + (c (o + 3 + 2 * v) 6)) &&& 65535)) (o + 3 + 2 * v) 12 ((c (o + 3 + 2 * v) 12) + 1)) (o + 3 + 2 * v) 0 0) else (zup (zup (zup c (o + 3 + 2 * v) 7 (((c (o + 3 + 2 * v) 7) + (c (o + 3 + 2 * v) 6)) &&& 65535)) (o + 3 + 2 * v) 12 ((c (o + 3 + 2 * v) 12) + 1)) (o + 3 + 2 * v) 0 1))
set_option maxRecDepth 100000 in
set_option maxHeartbeats 4000000 in
theorem k_X5_moveOn (l : Launch) (E : zE) (b : Nat) (c : Nat → Nat → Int32) (w : Nat → Int64) (en : Nat → Nat) (ea : Nat → Nat → Int32) {o v : Nat} (ho : zTk o) (hv : v < 4) (hg : zG c) : zM l yX5_moveOn (.code yX5_moveOn cX5_moveOn 1 none :: zAll) (zRm 0 0 0) E b [.ref (b + (o + 3 + 2 * v))] (zH E b c w en ea) (fun v9 (_ : Unit) => v9 = none ∧ zfr (o + 3 + 2 * v) (o + 3 + 2 * v + 1) (o + 3 + 2 * v) (o + 3 + 2 * v) c (m_X5_moveOn c ea o v) ∧ zG (m_X5_moveOn c ea o v)) (fun _ => zH E b (m_X5_moveOn c ea o v) w en ea) 0 0 := by
  refine zM_of "ToneGraph$Voice" (by decide) rfl rfl (Nat.le_of_ble_eq_true rfl) (L0 := [(0, .ref (b + (o + 3 + 2 * v)))]) rfl ?_
  intro p e s m args below meth c9 B hr hname
  have ho9 : o = 34 ∨ o = 70 := ho
  refine zv_aload_n (pc := 0) B 0 rfl dX5_moveOn_0 ?_
  refine zv_aload_n (pc := 1) B 0 rfl dX5_moveOn_1 ?_
  refine zv_get (pc := 2) (v := .int (c (o + 3 + 2 * v) 7)) B (zat (by have h9 : v < 4 := hv; have := zTk.lt ho (k := 3 + 2 * v) (by omega); omega) (zt_vc ho hv _ _ _)) cl5 inX5 7 (by decide) wf_X5_45 rfl dX5_moveOn_2 ?_
  refine zv_aload_n (pc := 5) B 0 rfl dX5_moveOn_5 ?_
  refine zv_get (pc := 6) (v := .int (c (o + 3 + 2 * v) 6)) B (zat (by have h9 : v < 4 := hv; have := zTk.lt ho (k := 3 + 2 * v) (by omega); omega) (zt_vc ho hv _ _ _)) cl5 inX5 6 (by decide) wf_X5_42 rfl dX5_moveOn_6 ?_
  refine zv_iadd (pc := 9) B dX5_moveOn_9 ?_
  refine zv_ldc (pc := 10) (v := 65535) B (B.at wk_X5_80) dX5_moveOn_10 ?_
  refine zv_iand (pc := 12) B dX5_moveOn_12 ?_
  refine zs_put9 (pc := 13) (f := 7) (F := fun x9 => [.int (x9 0), .int (x9 1), .int (x9 2), .int (x9 3), .int (x9 4), .ref (en (o + 3 + 2 * v)), .int (x9 6), .int (x9 7), .int (x9 8), .int (x9 9), .int (x9 10), .int (x9 11), .int (x9 12)]) B zid (by have h9 : v < 4 := hv; have := zTk.lt ho (k := 3 + 2 * v) (by omega); omega) (zt_vc_e ho hv) (fun x => zt_vc ho hv x _ _) cl5 inX5 tyX5 tyX5_ok nmX5 (by decide) wf_X5_45 rfl rfl rfl rfl (Nat.le_of_ble_eq_true rfl) (fun _ _ => rfl) dX5_moveOn_13 ?_
  refine zv_aload_n (pc := 16) B 0 rfl dX5_moveOn_16 ?_
  refine zv_get (pc := 17) (v := .int ((zup c (o + 3 + 2 * v) 7 (((c (o + 3 + 2 * v) 7) + (c (o + 3 + 2 * v) 6)) &&& 65535)) (o + 3 + 2 * v) 1)) B (zat (by have h9 : v < 4 := hv; have := zTk.lt ho (k := 3 + 2 * v) (by omega); omega) (zt_vc ho hv _ _ _)) cl5 inX5 1 (by decide) wf_X5_28 rfl dX5_moveOn_17 ?_
  refine zv_topi (y := c (o + 3 + 2 * v) 1) (by rw [zup_k (k := 7) (k' := 1) _ _ (by decide)]) ?_
  refine zv_if_eq (pc := 20) (tgt := 59) B dX5_moveOn_20 rfl (fun h1 => ?_) (fun h1 => ?_)
  · refine zv_aload_n (pc := 59) B 0 rfl dX5_moveOn_59 ?_
    refine zv_dup (pc := 60) B rfl dX5_moveOn_60 ?_
    refine zv_get (pc := 61) (v := .int ((zup c (o + 3 + 2 * v) 7 (((c (o + 3 + 2 * v) 7) + (c (o + 3 + 2 * v) 6)) &&& 65535)) (o + 3 + 2 * v) 10)) B (zat (by have h9 : v < 4 := hv; have := zTk.lt ho (k := 3 + 2 * v) (by omega); omega) (zt_vc ho hv _ _ _)) cl5 inX5 10 (by decide) wf_X5_51 rfl dX5_moveOn_61 ?_
    refine zv_topi (y := c (o + 3 + 2 * v) 10) (by rw [zup_k (k := 7) (k' := 10) _ _ (by decide)]) ?_
    refine zv_iconst (pc := 64) (v := 1) B rfl dX5_moveOn_64 ?_
    refine zv_iadd (pc := 65) B dX5_moveOn_65 ?_
    refine zs_put9 (pc := 66) (f := 10) (F := fun x9 => [.int (x9 0), .int (x9 1), .int (x9 2), .int (x9 3), .int (x9 4), .ref (en (o + 3 + 2 * v)), .int (x9 6), .int (x9 7), .int (x9 8), .int (x9 9), .int (x9 10), .int (x9 11), .int (x9 12)]) B zid (by have h9 : v < 4 := hv; have := zTk.lt ho (k := 3 + 2 * v) (by omega); omega) (zt_vc_e ho hv) (fun x => zt_vc ho hv x _ _) cl5 inX5 tyX5 tyX5_ok nmX5 (by decide) wf_X5_51 rfl rfl rfl rfl (Nat.le_of_ble_eq_true rfl) (fun _ _ => rfl) dX5_moveOn_66 ?_
    have hE2 : zup (zup c (o + 3 + 2 * v) 7 (((c (o + 3 + 2 * v) 7) + (c (o + 3 + 2 * v) 6)) &&& 65535)) (o + 3 + 2 * v) 10 ((c (o + 3 + 2 * v) 10) + 1) = m_X5_moveOn c ea o v := (by unfold m_X5_moveOn; rw [if_pos h1])
    exact zv_vret (pc := 69) B hr (fun H hP => ⟨(), ⟨rfl, Eq.subst (motive := fun z => zfr (o + 3 + 2 * v) (o + 3 + 2 * v + 1) (o + 3 + 2 * v) (o + 3 + 2 * v) c z) hE2 (zfr.up (zfr.up zfr.refl (by have h8 : v < 4 := hv; omega)) (by have h8 : v < 4 := hv; omega)), Eq.subst (motive := fun z => zG z) hE2 (zG.vup (zG.vup hg ho hv (show zn _ ≤ zT9 from zn_T _)) ho hv (show zn _ ≤ zT9 from zn_T _))⟩, Eq.subst (motive := fun z => zH E b z w en ea H) hE2 hP⟩) (Nat.le_of_ble_eq_true rfl) (Nat.le_of_ble_eq_true rfl) dX5_moveOn_69
  · refine zv_aload_n (pc := 23) B 0 rfl dX5_moveOn_23 ?_
    refine zv_dup (pc := 24) B rfl dX5_moveOn_24 ?_
    refine zv_get (pc := 25) (v := .int ((zup c (o + 3 + 2 * v) 7 (((c (o + 3 + 2 * v) 7) + (c (o + 3 + 2 * v) 6)) &&& 65535)) (o + 3 + 2 * v) 12)) B (zat (by have h9 : v < 4 := hv; have := zTk.lt ho (k := 3 + 2 * v) (by omega); omega) (zt_vc ho hv _ _ _)) cl5 inX5 12 (by decide) wf_X5_61 rfl dX5_moveOn_25 ?_
    refine zv_topi (y := c (o + 3 + 2 * v) 12) (by rw [zup_k (k := 7) (k' := 12) _ _ (by decide)]) ?_
    refine zv_iconst (pc := 28) (v := 1) B rfl dX5_moveOn_28 ?_
    refine zv_iadd (pc := 29) B dX5_moveOn_29 ?_
    refine zs_put9 (pc := 30) (f := 12) (F := fun x9 => [.int (x9 0), .int (x9 1), .int (x9 2), .int (x9 3), .int (x9 4), .ref (en (o + 3 + 2 * v)), .int (x9 6), .int (x9 7), .int (x9 8), .int (x9 9), .int (x9 10), .int (x9 11), .int (x9 12)]) B zid (by have h9 : v < 4 := hv; have := zTk.lt ho (k := 3 + 2 * v) (by omega); omega) (zt_vc_e ho hv) (fun x => zt_vc ho hv x _ _) cl5 inX5 tyX5 tyX5_ok nmX5 (by decide) wf_X5_61 rfl rfl rfl rfl (Nat.le_of_ble_eq_true rfl) (fun _ _ => rfl) dX5_moveOn_30 ?_
    refine zv_aload_n (pc := 33) B 0 rfl dX5_moveOn_33 ?_
    refine zv_aload_n (pc := 34) B 0 rfl dX5_moveOn_34 ?_
    refine zv_get (pc := 35) (v := .int ((zup (zup c (o + 3 + 2 * v) 7 (((c (o + 3 + 2 * v) 7) + (c (o + 3 + 2 * v) 6)) &&& 65535)) (o + 3 + 2 * v) 12 ((c (o + 3 + 2 * v) 12) + 1)) (o + 3 + 2 * v) 12)) B (zat (by have h9 : v < 4 := hv; have := zTk.lt ho (k := 3 + 2 * v) (by omega); omega) (zt_vc ho hv _ _ _)) cl5 inX5 12 (by decide) wf_X5_61 rfl dX5_moveOn_35 ?_
    refine zv_topi (y := (c (o + 3 + 2 * v) 12) + 1) (by rw [zup_s]) ?_
    refine zv_aload_n (pc := 38) B 0 rfl dX5_moveOn_38 ?_
    refine zv_get (pc := 39) (v := .ref (en (o + 3 + 2 * v))) B (zat (by have h9 : v < 4 := hv; have := zTk.lt ho (k := 3 + 2 * v) (by omega); omega) (zt_vc ho hv _ _ _)) cl5 inX5 5 (by decide) wf_X5_20 rfl dX5_moveOn_39 ?_
    refine zv_get (pc := 42) (v := .int (ea (o + 3 + 2 * v) 3)) B (zaev (zae _ (zt_vc_h ho hv))) cl2 inX2 3 (by decide) wf_X5_67 rfl dX5_moveOn_42 ?_
    refine zv_icmp_ge (pc := 45) (tgt := 52) B dX5_moveOn_45 rfl (fun h3 => ?_) (fun h3 => ?_)
    · refine zv_iconst (pc := 52) (v := 0) B rfl dX5_moveOn_52 ?_
      refine zs_put9 (pc := 53) (f := 0) (F := fun x9 => [.int (x9 0), .int (x9 1), .int (x9 2), .int (x9 3), .int (x9 4), .ref (en (o + 3 + 2 * v)), .int (x9 6), .int (x9 7), .int (x9 8), .int (x9 9), .int (x9 10), .int (x9 11), .int (x9 12)]) B zid (by have h9 : v < 4 := hv; have := zTk.lt ho (k := 3 + 2 * v) (by omega); omega) (zt_vc_e ho hv) (fun x => zt_vc ho hv x _ _) cl5 inX5 tyX5 tyX5_ok nmX5 (by decide) wf_X5_24 rfl rfl rfl rfl (Nat.le_of_ble_eq_true rfl) (fun _ _ => rfl) dX5_moveOn_53 ?_
      refine zv_goto (pc := 56) (tgt := 69) B rfl dX5_moveOn_56 ?_
      have hE4 : zup (zup (zup c (o + 3 + 2 * v) 7 (((c (o + 3 + 2 * v) 7) + (c (o + 3 + 2 * v) 6)) &&& 65535)) (o + 3 + 2 * v) 12 ((c (o + 3 + 2 * v) 12) + 1)) (o + 3 + 2 * v) 0 0 = m_X5_moveOn c ea o v := (by unfold m_X5_moveOn; rw [if_neg h1, if_pos h3])
      exact zv_vret (pc := 69) B hr (fun H hP => ⟨(), ⟨rfl, Eq.subst (motive := fun z => zfr (o + 3 + 2 * v) (o + 3 + 2 * v + 1) (o + 3 + 2 * v) (o + 3 + 2 * v) c z) hE4 (zfr.up (zfr.up (zfr.up zfr.refl (by have h8 : v < 4 := hv; omega)) (by have h8 : v < 4 := hv; omega)) (by have h8 : v < 4 := hv; omega)), Eq.subst (motive := fun z => zG z) hE4 (zG.vup (zG.vup (zG.vup hg ho hv (show zn _ ≤ zT9 from zn_T _)) ho hv (show zn _ ≤ zT9 from zn_T _)) ho hv (show zn _ ≤ 1 from (show zn _ ≤ 1 by decide)))⟩, Eq.subst (motive := fun z => zH E b z w en ea H) hE4 hP⟩) (Nat.le_of_ble_eq_true rfl) (Nat.le_of_ble_eq_true rfl) dX5_moveOn_69
    · refine zv_iconst (pc := 48) (v := 1) B rfl dX5_moveOn_48 ?_
      refine zv_goto (pc := 49) (tgt := 53) B rfl dX5_moveOn_49 ?_
      refine zs_put9 (pc := 53) (f := 0) (F := fun x9 => [.int (x9 0), .int (x9 1), .int (x9 2), .int (x9 3), .int (x9 4), .ref (en (o + 3 + 2 * v)), .int (x9 6), .int (x9 7), .int (x9 8), .int (x9 9), .int (x9 10), .int (x9 11), .int (x9 12)]) B zid (by have h9 : v < 4 := hv; have := zTk.lt ho (k := 3 + 2 * v) (by omega); omega) (zt_vc_e ho hv) (fun x => zt_vc ho hv x _ _) cl5 inX5 tyX5 tyX5_ok nmX5 (by decide) wf_X5_24 rfl rfl rfl rfl (Nat.le_of_ble_eq_true rfl) (fun _ _ => rfl) dX5_moveOn_53 ?_
      refine zv_goto (pc := 56) (tgt := 69) B rfl dX5_moveOn_56 ?_
      have hE5 : zup (zup (zup c (o + 3 + 2 * v) 7 (((c (o + 3 + 2 * v) 7) + (c (o + 3 + 2 * v) 6)) &&& 65535)) (o + 3 + 2 * v) 12 ((c (o + 3 + 2 * v) 12) + 1)) (o + 3 + 2 * v) 0 1 = m_X5_moveOn c ea o v := (by unfold m_X5_moveOn; rw [if_neg h1, if_neg h3])
      exact zv_vret (pc := 69) B hr (fun H hP => ⟨(), ⟨rfl, Eq.subst (motive := fun z => zfr (o + 3 + 2 * v) (o + 3 + 2 * v + 1) (o + 3 + 2 * v) (o + 3 + 2 * v) c z) hE5 (zfr.up (zfr.up (zfr.up zfr.refl (by have h8 : v < 4 := hv; omega)) (by have h8 : v < 4 := hv; omega)) (by have h8 : v < 4 := hv; omega)), Eq.subst (motive := fun z => zG z) hE5 (zG.vup (zG.vup (zG.vup hg ho hv (show zn _ ≤ zT9 from zn_T _)) ho hv (show zn _ ≤ zT9 from zn_T _)) ho hv (show zn _ ≤ 1 from (show zn _ ≤ 1 by decide)))⟩, Eq.subst (motive := fun z => zH E b z w en ea H) hE5 hP⟩) (Nat.le_of_ble_eq_true rfl) (Nat.le_of_ble_eq_true rfl) dX5_moveOn_69

def m_X5_release (c : Nat → Nat → Int32) (ea : Nat → Nat → Int32) (o v : Nat) (x : Int32) : (Nat → Nat → Int32) := if (ea (o + 3 + 2 * v) 3) ≤ 0 then (zup (zup (zup (zup (zup c (o + 3 + 2 * v) 11 (m_X5_level c ea o v)) (o + 3 + 2 * v) 12 0) (o + 3 + 2 * v) 1 1) (o + 3 + 2 * v) 9 x) (o + 3 + 2 * v) 0 0) else (zup (zup (zup (zup (zup c (o + 3 + 2 * v) 11 (m_X5_level c ea o v)) (o + 3 + 2 * v) 12 0) (o + 3 + 2 * v) 1 1) (o + 3 + 2 * v) 9 x) (o + 3 + 2 * v) 0 1)
set_option maxRecDepth 100000 in
set_option maxHeartbeats 4000000 in
theorem k_X5_release (l : Launch) (E : zE) (b : Nat) (c : Nat → Nat → Int32) (w : Nat → Int64) (en : Nat → Nat) (ea : Nat → Nat → Int32) {o v : Nat} (ho : zTk o) (hv : v < 4) (x : Int32) (hg : zG c) : zM l yX5_release (.code yX5_release cX5_release 2 none :: zAll) (zRm 1 0 0) E b [.ref (b + (o + 3 + 2 * v)), .int x] (zH E b c w en ea) (fun v9 (_ : Unit) => v9 = none ∧ zfr (o + 3 + 2 * v) (o + 3 + 2 * v + 1) (o + 3 + 2 * v) (o + 3 + 2 * v) c (m_X5_release c ea o v x) ∧ zG (m_X5_release c ea o v x)) (fun _ => zH E b (m_X5_release c ea o v x) w en ea) 0 0 := by
  refine zM_of "ToneGraph$Voice" (by decide) rfl rfl (Nat.le_of_ble_eq_true rfl) (L0 := [(0, .ref (b + (o + 3 + 2 * v))), (1, .int x)]) rfl ?_
  intro p e s m args below meth c9 B hr hname
  have ho9 : o = 34 ∨ o = 70 := ho
  refine zv_aload_n (pc := 0) B 0 rfl dX5_release_0 ?_
  refine zv_aload_n (pc := 1) B 0 rfl dX5_release_1 ?_
  refine zv_callV (pc := 2) (As := []) (rest := [.ref (b + (o + 3 + 2 * v))]) B (k_X5_level l E b _ _ _ _ ho hv) (zcwV 0 0 B wm_X5_54 wi_X5_level wv_X5_level wn_X5 wcode_X5_level rfl (by decide +kernel) ⟨(Nat.le_of_ble_eq_true rfl), (Nat.le_of_ble_eq_true rfl)⟩) rfl (zrecv B (zat (by have h9 : v < 4 := hv; have := zTk.lt ho (k := 3 + 2 * v) (by omega); omega) (zt_vc ho hv _ _ _)) cl5) zid rfl (Nat.le_of_ble_eq_true rfl) dX5_release_2 ⟨(Nat.le_of_ble_eq_true rfl), (Nat.le_of_ble_eq_true rfl)⟩ (fun v9 u9 hv9 => ?_)
  subst hv9
  refine zv_st (st' := [.int (m_X5_level c ea o v), .ref (b + (o + 3 + 2 * v))]) rfl ?_
  refine zs_put9 (pc := 5) (f := 11) (F := fun x9 => [.int (x9 0), .int (x9 1), .int (x9 2), .int (x9 3), .int (x9 4), .ref (en (o + 3 + 2 * v)), .int (x9 6), .int (x9 7), .int (x9 8), .int (x9 9), .int (x9 10), .int (x9 11), .int (x9 12)]) B zid (by have h9 : v < 4 := hv; have := zTk.lt ho (k := 3 + 2 * v) (by omega); omega) (zt_vc_e ho hv) (fun x => zt_vc ho hv x _ _) cl5 inX5 tyX5 tyX5_ok nmX5 (by decide) wf_X5_58 rfl rfl rfl rfl (Nat.le_of_ble_eq_true rfl) (fun _ _ => rfl) dX5_release_5 ?_
  refine zv_aload_n (pc := 8) B 0 rfl dX5_release_8 ?_
  refine zv_iconst (pc := 9) (v := 0) B rfl dX5_release_9 ?_
  refine zs_put9 (pc := 10) (f := 12) (F := fun x9 => [.int (x9 0), .int (x9 1), .int (x9 2), .int (x9 3), .int (x9 4), .ref (en (o + 3 + 2 * v)), .int (x9 6), .int (x9 7), .int (x9 8), .int (x9 9), .int (x9 10), .int (x9 11), .int (x9 12)]) B zid (by have h9 : v < 4 := hv; have := zTk.lt ho (k := 3 + 2 * v) (by omega); omega) (zt_vc_e ho hv) (fun x => zt_vc ho hv x _ _) cl5 inX5 tyX5 tyX5_ok nmX5 (by decide) wf_X5_61 rfl rfl rfl rfl (Nat.le_of_ble_eq_true rfl) (fun _ _ => rfl) dX5_release_10 ?_
  refine zv_aload_n (pc := 13) B 0 rfl dX5_release_13 ?_
  refine zv_iconst (pc := 14) (v := 1) B rfl dX5_release_14 ?_
  refine zs_put9 (pc := 15) (f := 1) (F := fun x9 => [.int (x9 0), .int (x9 1), .int (x9 2), .int (x9 3), .int (x9 4), .ref (en (o + 3 + 2 * v)), .int (x9 6), .int (x9 7), .int (x9 8), .int (x9 9), .int (x9 10), .int (x9 11), .int (x9 12)]) B zid (by have h9 : v < 4 := hv; have := zTk.lt ho (k := 3 + 2 * v) (by omega); omega) (zt_vc_e ho hv) (fun x => zt_vc ho hv x _ _) cl5 inX5 tyX5 tyX5_ok nmX5 (by decide) wf_X5_28 rfl rfl rfl rfl (Nat.le_of_ble_eq_true rfl) (fun _ _ => rfl) dX5_release_15 ?_
  refine zv_aload_n (pc := 18) B 0 rfl dX5_release_18 ?_
  refine zv_iload_n (pc := 19) B 1 rfl dX5_release_19 ?_
  refine zs_put9 (pc := 20) (f := 9) (F := fun x9 => [.int (x9 0), .int (x9 1), .int (x9 2), .int (x9 3), .int (x9 4), .ref (en (o + 3 + 2 * v)), .int (x9 6), .int (x9 7), .int (x9 8), .int (x9 9), .int (x9 10), .int (x9 11), .int (x9 12)]) B zid (by have h9 : v < 4 := hv; have := zTk.lt ho (k := 3 + 2 * v) (by omega); omega) (zt_vc_e ho hv) (fun x => zt_vc ho hv x _ _) cl5 inX5 tyX5 tyX5_ok nmX5 (by decide) wf_X5_64 rfl rfl rfl rfl (Nat.le_of_ble_eq_true rfl) (fun _ _ => rfl) dX5_release_20 ?_
  refine zv_aload_n (pc := 23) B 0 rfl dX5_release_23 ?_
  refine zv_aload_n (pc := 24) B 0 rfl dX5_release_24 ?_
  refine zv_get (pc := 25) (v := .ref (en (o + 3 + 2 * v))) B (zat (by have h9 : v < 4 := hv; have := zTk.lt ho (k := 3 + 2 * v) (by omega); omega) (zt_vc ho hv _ _ _)) cl5 inX5 5 (by decide) wf_X5_20 rfl dX5_release_25 ?_
  refine zv_get (pc := 28) (v := .int (ea (o + 3 + 2 * v) 3)) B (zaev (zae _ (zt_vc_h ho hv))) cl2 inX2 3 (by decide) wf_X5_67 rfl dX5_release_28 ?_
  refine zv_if_le (pc := 31) (tgt := 38) B dX5_release_31 rfl (fun h1 => ?_) (fun h1 => ?_)
  · refine zv_iconst (pc := 38) (v := 0) B rfl dX5_release_38 ?_
    refine zs_put9 (pc := 39) (f := 0) (F := fun x9 => [.int (x9 0), .int (x9 1), .int (x9 2), .int (x9 3), .int (x9 4), .ref (en (o + 3 + 2 * v)), .int (x9 6), .int (x9 7), .int (x9 8), .int (x9 9), .int (x9 10), .int (x9 11), .int (x9 12)]) B zid (by have h9 : v < 4 := hv; have := zTk.lt ho (k := 3 + 2 * v) (by omega); omega) (zt_vc_e ho hv) (fun x => zt_vc ho hv x _ _) cl5 inX5 tyX5 tyX5_ok nmX5 (by decide) wf_X5_24 rfl rfl rfl rfl (Nat.le_of_ble_eq_true rfl) (fun _ _ => rfl) dX5_release_39 ?_
    have hE2 : zup (zup (zup (zup (zup c (o + 3 + 2 * v) 11 (m_X5_level c ea o v)) (o + 3 + 2 * v) 12 0) (o + 3 + 2 * v) 1 1) (o + 3 + 2 * v) 9 x) (o + 3 + 2 * v) 0 0 = m_X5_release c ea o v x := (by unfold m_X5_release; rw [if_pos h1])
    exact zv_vret (pc := 42) B hr (fun H hP => ⟨(), ⟨rfl, Eq.subst (motive := fun z => zfr (o + 3 + 2 * v) (o + 3 + 2 * v + 1) (o + 3 + 2 * v) (o + 3 + 2 * v) c z) hE2 (zfr.up (zfr.up (zfr.up (zfr.up (zfr.up zfr.refl (by have h8 : v < 4 := hv; omega)) (by have h8 : v < 4 := hv; omega)) (by have h8 : v < 4 := hv; omega)) (by have h8 : v < 4 := hv; omega)) (by have h8 : v < 4 := hv; omega)), Eq.subst (motive := fun z => zG z) hE2 (zG.vup (zG.vup (zG.vup (zG.vup (zG.vup hg ho hv (show zn _ ≤ zT9 from zn_T _)) ho hv (show zn _ ≤ zT9 from zn_T _)) ho hv (show zn _ ≤ 1 from (show zn _ ≤ 1 by decide))) ho hv (show zn _ ≤ zT9 from zn_T _)) ho hv (show zn _ ≤ 1 from (show zn _ ≤ 1 by decide)))⟩, Eq.subst (motive := fun z => zH E b z w en ea H) hE2 hP⟩) (Nat.le_of_ble_eq_true rfl) (Nat.le_of_ble_eq_true rfl) dX5_release_42
  · refine zv_iconst (pc := 34) (v := 1) B rfl dX5_release_34 ?_
    refine zv_goto (pc := 35) (tgt := 39) B rfl dX5_release_35 ?_
    refine zs_put9 (pc := 39) (f := 0) (F := fun x9 => [.int (x9 0), .int (x9 1), .int (x9 2), .int (x9 3), .int (x9 4), .ref (en (o + 3 + 2 * v)), .int (x9 6), .int (x9 7), .int (x9 8), .int (x9 9), .int (x9 10), .int (x9 11), .int (x9 12)]) B zid (by have h9 : v < 4 := hv; have := zTk.lt ho (k := 3 + 2 * v) (by omega); omega) (zt_vc_e ho hv) (fun x => zt_vc ho hv x _ _) cl5 inX5 tyX5 tyX5_ok nmX5 (by decide) wf_X5_24 rfl rfl rfl rfl (Nat.le_of_ble_eq_true rfl) (fun _ _ => rfl) dX5_release_39 ?_
    have hE3 : zup (zup (zup (zup (zup c (o + 3 + 2 * v) 11 (m_X5_level c ea o v)) (o + 3 + 2 * v) 12 0) (o + 3 + 2 * v) 1 1) (o + 3 + 2 * v) 9 x) (o + 3 + 2 * v) 0 1 = m_X5_release c ea o v x := (by unfold m_X5_release; rw [if_neg h1])
    exact zv_vret (pc := 42) B hr (fun H hP => ⟨(), ⟨rfl, Eq.subst (motive := fun z => zfr (o + 3 + 2 * v) (o + 3 + 2 * v + 1) (o + 3 + 2 * v) (o + 3 + 2 * v) c z) hE3 (zfr.up (zfr.up (zfr.up (zfr.up (zfr.up zfr.refl (by have h8 : v < 4 := hv; omega)) (by have h8 : v < 4 := hv; omega)) (by have h8 : v < 4 := hv; omega)) (by have h8 : v < 4 := hv; omega)) (by have h8 : v < 4 := hv; omega)), Eq.subst (motive := fun z => zG z) hE3 (zG.vup (zG.vup (zG.vup (zG.vup (zG.vup hg ho hv (show zn _ ≤ zT9 from zn_T _)) ho hv (show zn _ ≤ zT9 from zn_T _)) ho hv (show zn _ ≤ 1 from (show zn _ ≤ 1 by decide))) ho hv (show zn _ ≤ zT9 from zn_T _)) ho hv (show zn _ ≤ 1 from (show zn _ ≤ 1 by decide)))⟩, Eq.subst (motive := fun z => zH E b z w en ea H) hE3 hP⟩) (Nat.le_of_ble_eq_true rfl) (Nat.le_of_ble_eq_true rfl) dX5_release_42

def m_X5_isStolenBefore (c : Nat → Nat → Int32) (ea : Nat → Nat → Int32) (o v : Nat) (u : Nat) : Int32 := if (c (o + 3 + 2 * v) 1) = (c (o + 3 + 2 * u) 1) then (if (c (o + 3 + 2 * v) 1) = 0 then (if (c (o + 3 + 2 * u) 8) ≤ (c (o + 3 + 2 * v) 8) then 0 else 1) else (if (c (o + 3 + 2 * u) 9) ≤ (c (o + 3 + 2 * v) 9) then 0 else 1)) else (c (o + 3 + 2 * v) 1)
set_option maxRecDepth 100000 in
set_option maxHeartbeats 4000000 in
theorem k_X5_isStolenBefore (l : Launch) (E : zE) (b : Nat) (c : Nat → Nat → Int32) (w : Nat → Int64) (en : Nat → Nat) (ea : Nat → Nat → Int32) {o v : Nat} (ho : zTk o) (hv : v < 4) {u : Nat} (hu : u < 4) (hg : zG c) : zM l yX5_isStolenBefore (.code yX5_isStolenBefore cX5_isStolenBefore 2 (some .boolean) :: zAll) (zRm 0 0 0) E b [.ref (b + (o + 3 + 2 * v)), .ref (b + (o + 3 + 2 * u))] (zH E b c w en ea) (fun v9 (_ : Unit) => v9 = some (.int (m_X5_isStolenBefore c ea o v u))) (fun _ => zH E b c w en ea) 0 0 := by
  refine zM_of "ToneGraph$Voice" (by decide) rfl rfl (Nat.le_of_ble_eq_true rfl) (L0 := [(0, .ref (b + (o + 3 + 2 * v))), (1, .ref (b + (o + 3 + 2 * u)))]) rfl ?_
  intro p e s m args below meth c9 B hr hname
  have ho9 : o = 34 ∨ o = 70 := ho
  refine zv_aload_n (pc := 0) B 0 rfl dX5_isStolenBefore_0 ?_
  refine zv_get (pc := 1) (v := .int (c (o + 3 + 2 * v) 1)) B (zat (by have h9 : v < 4 := hv; have := zTk.lt ho (k := 3 + 2 * v) (by omega); omega) (zt_vc ho hv _ _ _)) cl5 inX5 1 (by decide) wf_X5_28 rfl dX5_isStolenBefore_1 ?_
  refine zv_aload_n (pc := 4) B 1 rfl dX5_isStolenBefore_4 ?_
  refine zv_get (pc := 5) (v := .int (c (o + 3 + 2 * u) 1)) B (zat (by have h9 : u < 4 := hu; have := zTk.lt ho (k := 3 + 2 * u) (by omega); omega) (zt_vc ho hu _ _ _)) cl5 inX5 1 (by decide) wf_X5_28 rfl dX5_isStolenBefore_5 ?_
  refine zv_icmp_eq (pc := 8) (tgt := 16) B dX5_isStolenBefore_8 rfl (fun h1 => ?_) (fun h1 => ?_)
  · refine zv_aload_n (pc := 16) B 0 rfl dX5_isStolenBefore_16 ?_
    refine zv_get (pc := 17) (v := .int (c (o + 3 + 2 * v) 1)) B (zat (by have h9 : v < 4 := hv; have := zTk.lt ho (k := 3 + 2 * v) (by omega); omega) (zt_vc ho hv _ _ _)) cl5 inX5 1 (by decide) wf_X5_28 rfl dX5_isStolenBefore_17 ?_
    refine zv_if_eq (pc := 20) (tgt := 42) B dX5_isStolenBefore_20 rfl (fun h2 => ?_) (fun h2 => ?_)
    · refine zv_aload_n (pc := 42) B 0 rfl dX5_isStolenBefore_42 ?_
      refine zv_get (pc := 43) (v := .int (c (o + 3 + 2 * v) 8)) B (zat (by have h9 : v < 4 := hv; have := zTk.lt ho (k := 3 + 2 * v) (by omega); omega) (zt_vc ho hv _ _ _)) cl5 inX5 8 (by decide) wf_X5_48 rfl dX5_isStolenBefore_43 ?_
      refine zv_aload_n (pc := 46) B 1 rfl dX5_isStolenBefore_46 ?_
      refine zv_get (pc := 47) (v := .int (c (o + 3 + 2 * u) 8)) B (zat (by have h9 : u < 4 := hu; have := zTk.lt ho (k := 3 + 2 * u) (by omega); omega) (zt_vc ho hu _ _ _)) cl5 inX5 8 (by decide) wf_X5_48 rfl dX5_isStolenBefore_47 ?_
      refine zv_icmp_ge (pc := 50) (tgt := 57) B dX5_isStolenBefore_50 rfl (fun h3 => ?_) (fun h3 => ?_)
      · refine zv_iconst (pc := 57) (v := 0) B rfl dX5_isStolenBefore_57 ?_
        have hE4 : 0 = m_X5_isStolenBefore c ea o v u := (by unfold m_X5_isStolenBefore; rw [if_pos h1, if_pos h2, if_pos h3])
        exact zv_zret (pc := 58) B (0) rfl hr (fun H hP => ⟨(), (congrArg (fun z => some (Value.int z)) hE4), hP⟩) (Nat.le_of_ble_eq_true rfl) (Nat.le_of_ble_eq_true rfl) dX5_isStolenBefore_58
      · refine zv_iconst (pc := 53) (v := 1) B rfl dX5_isStolenBefore_53 ?_
        refine zv_goto (pc := 54) (tgt := 58) B rfl dX5_isStolenBefore_54 ?_
        have hE5 : 1 = m_X5_isStolenBefore c ea o v u := (by unfold m_X5_isStolenBefore; rw [if_pos h1, if_pos h2, if_neg h3])
        exact zv_zret (pc := 58) B (1) rfl hr (fun H hP => ⟨(), (congrArg (fun z => some (Value.int z)) hE5), hP⟩) (Nat.le_of_ble_eq_true rfl) (Nat.le_of_ble_eq_true rfl) dX5_isStolenBefore_58
    · refine zv_aload_n (pc := 23) B 0 rfl dX5_isStolenBefore_23 ?_
      refine zv_get (pc := 24) (v := .int (c (o + 3 + 2 * v) 9)) B (zat (by have h9 : v < 4 := hv; have := zTk.lt ho (k := 3 + 2 * v) (by omega); omega) (zt_vc ho hv _ _ _)) cl5 inX5 9 (by decide) wf_X5_64 rfl dX5_isStolenBefore_24 ?_
      refine zv_aload_n (pc := 27) B 1 rfl dX5_isStolenBefore_27 ?_
      refine zv_get (pc := 28) (v := .int (c (o + 3 + 2 * u) 9)) B (zat (by have h9 : u < 4 := hu; have := zTk.lt ho (k := 3 + 2 * u) (by omega); omega) (zt_vc ho hu _ _ _)) cl5 inX5 9 (by decide) wf_X5_64 rfl dX5_isStolenBefore_28 ?_
      refine zv_icmp_ge (pc := 31) (tgt := 38) B dX5_isStolenBefore_31 rfl (fun h6 => ?_) (fun h6 => ?_)
      · refine zv_iconst (pc := 38) (v := 0) B rfl dX5_isStolenBefore_38 ?_
        refine zv_goto (pc := 39) (tgt := 58) B rfl dX5_isStolenBefore_39 ?_
        have hE7 : 0 = m_X5_isStolenBefore c ea o v u := (by unfold m_X5_isStolenBefore; rw [if_pos h1, if_neg h2, if_pos h6])
        exact zv_zret (pc := 58) B (0) rfl hr (fun H hP => ⟨(), (congrArg (fun z => some (Value.int z)) hE7), hP⟩) (Nat.le_of_ble_eq_true rfl) (Nat.le_of_ble_eq_true rfl) dX5_isStolenBefore_58
      · refine zv_iconst (pc := 34) (v := 1) B rfl dX5_isStolenBefore_34 ?_
        refine zv_goto (pc := 35) (tgt := 58) B rfl dX5_isStolenBefore_35 ?_
        have hE8 : 1 = m_X5_isStolenBefore c ea o v u := (by unfold m_X5_isStolenBefore; rw [if_pos h1, if_neg h2, if_neg h6])
        exact zv_zret (pc := 58) B (1) rfl hr (fun H hP => ⟨(), (congrArg (fun z => some (Value.int z)) hE8), hP⟩) (Nat.le_of_ble_eq_true rfl) (Nat.le_of_ble_eq_true rfl) dX5_isStolenBefore_58
  · refine zv_aload_n (pc := 11) B 0 rfl dX5_isStolenBefore_11 ?_
    refine zv_get (pc := 12) (v := .int (c (o + 3 + 2 * v) 1)) B (zat (by have h9 : v < 4 := hv; have := zTk.lt ho (k := 3 + 2 * v) (by omega); omega) (zt_vc ho hv _ _ _)) cl5 inX5 1 (by decide) wf_X5_28 rfl dX5_isStolenBefore_12 ?_
    have hE9 : c (o + 3 + 2 * v) 1 = m_X5_isStolenBefore c ea o v u := (by unfold m_X5_isStolenBefore; rw [if_neg h1])
    exact zv_zret (pc := 15) B (c (o + 3 + 2 * v) 1) (znar_b (zG.vb hg ho hv).2.1) hr (fun H hP => ⟨(), (congrArg (fun z => some (Value.int z)) hE9), hP⟩) (Nat.le_of_ble_eq_true rfl) (Nat.le_of_ble_eq_true rfl) dX5_isStolenBefore_15
