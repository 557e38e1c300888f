/-! methods of numbers alone -/
def r_X6_cut (x : Int32) : Int32 := zmax (-32767) (zmin 32767 x)
set_option maxRecDepth 100000 in
set_option maxHeartbeats 4000000 in
theorem k_X6_cut (l : Launch) (E : zE) (b : Nat) {P : Heap → Prop} (x : Int32) : zM l yX6_cut (.code yX6_cut cX6_cut 1 (some .int) :: zAll) (zRm 1 0 0) E b [.int x] (P) (fun v9 (_ : Unit) => v9 = some (.int (r_X6_cut x))) (fun _ => P) 0 0 := by
  refine zM_of "ToneGraph" (by decide) rfl rfl (Nat.le_of_ble_eq_true rfl) (L0 := [(0, .int x)]) rfl ?_
  intro p e s m args below meth c9 B hr hname
  refine zv_sipush (pc := 0) (v := (-32767)) B rfl dX6_cut_0 ?_
  refine zv_sipush (pc := 3) (v := 32767) B rfl dX6_cut_3 ?_
  refine zv_iload_n (pc := 6) B 0 rfl dX6_cut_6 ?_
  refine zv_mmin (pc := 7) B wm_X6_291 ws_Math_min wn_Math wcode_Math_min (Nat.le_of_ble_eq_true rfl) (Nat.le_of_ble_eq_true rfl) (Nat.le_of_ble_eq_true rfl) (Nat.le_of_ble_eq_true rfl) dX6_cut_7 ?_
  refine zv_mmax (pc := 10) B wm_X6_296 ws_Math_max wn_Math wcode_Math_max (Nat.le_of_ble_eq_true rfl) (Nat.le_of_ble_eq_true rfl) (Nat.le_of_ble_eq_true rfl) (Nat.le_of_ble_eq_true rfl) dX6_cut_10 ?_
  exact zv_iret (pc := 13) B (zmax (-32767) (zmin 32767 x)) hr (fun H hP => ⟨(), congrArg (fun z => some (Value.int z)) (show (zmax (-32767) (zmin 32767 x)) = r_X6_cut x from (by unfold r_X6_cut; rfl)), hP⟩) (Nat.le_of_ble_eq_true rfl) (Nat.le_of_ble_eq_true rfl) dX6_cut_13

def r_X6_partOf (x y : Int32) : Int32 := (x * y) / 100
set_option maxRecDepth 100000 in
set_option maxHeartbeats 4000000 in
theorem k_X6_partOf (l : Launch) (E : zE) (b : Nat) {P : Heap → Prop} (x y : Int32) : zM l yX6_partOf (.code yX6_partOf cX6_partOf 2 (some .int) :: zAll) (zRm 0 0 0) E b [.int x, .int y] (P) (fun v9 (_ : Unit) => v9 = some (.int (r_X6_partOf x y))) (fun _ => P) 0 0 := by
  refine zM_of "ToneGraph" (by decide) rfl rfl (Nat.le_of_ble_eq_true rfl) (L0 := [(0, .int x), (1, .int y)]) rfl ?_
  intro p e s m args below meth c9 B hr hname
  refine zv_iload_n (pc := 0) B 0 rfl dX6_partOf_0 ?_
  refine zv_iload_n (pc := 1) B 1 rfl dX6_partOf_1 ?_
  refine zv_imul (pc := 2) B dX6_partOf_2 ?_
  refine zv_bipush (pc := 3) (v := 100) B rfl dX6_partOf_3 ?_
  refine zv_idiv (pc := 5) B (by decide) dX6_partOf_5 ?_
  exact zv_iret (pc := 6) B ((x * y) / 100) hr (fun H hP => ⟨(), congrArg (fun z => some (Value.int z)) (show ((x * y) / 100) = r_X6_partOf x y from (by unfold r_X6_partOf; rfl)), hP⟩) (Nat.le_of_ble_eq_true rfl) (Nat.le_of_ble_eq_true rfl) dX6_partOf_6

def r_X0_isIn (x y : Int32) : Int32 := if ((x >>> (y &&& 31)) &&& 1) = 1 then 1 else 0
set_option maxRecDepth 100000 in
set_option maxHeartbeats 4000000 in
theorem k_X0_isIn (l : Launch) (E : zE) (b : Nat) {P : Heap → Prop} (x y : Int32) : zM l yX0_isIn (.code yX0_isIn cX0_isIn 2 (some .boolean) :: zAll) (zRm 0 0 0) E b [.int x, .int y] (P) (fun v9 (_ : Unit) => v9 = some (.int (r_X0_isIn x y))) (fun _ => P) 0 0 := by
  refine zM_of "ToneGraph$Board" (by decide) rfl rfl (Nat.le_of_ble_eq_true rfl) (L0 := [(0, .int x), (1, .int y)]) rfl ?_
  intro p e s m args below meth c9 B hr hname
  refine zv_iload_n (pc := 0) B 0 rfl dX0_isIn_0 ?_
  refine zv_iload_n (pc := 1) B 1 rfl dX0_isIn_1 ?_
  refine zv_ishr (pc := 2) B dX0_isIn_2 ?_
  refine zv_iconst (pc := 3) (v := 1) B rfl dX0_isIn_3 ?_
  refine zv_iand (pc := 4) B dX0_isIn_4 ?_
  refine zv_iconst (pc := 5) (v := 1) B rfl dX0_isIn_5 ?_
  refine zv_icmp_ne (pc := 6) (tgt := 13) B dX0_isIn_6 rfl (fun h1 => ?_) (fun h1 => ?_)
  · refine zv_iconst (pc := 13) (v := 0) B rfl dX0_isIn_13 ?_
    exact zv_zret (pc := 14) B (0) rfl hr (fun H hP => ⟨(), congrArg (fun z => some (Value.int z)) (show 0 = r_X0_isIn x y from (by unfold r_X0_isIn; rw [if_neg h1])), hP⟩) (Nat.le_of_ble_eq_true rfl) (Nat.le_of_ble_eq_true rfl) dX0_isIn_14
  · refine zv_iconst (pc := 9) (v := 1) B rfl dX0_isIn_9 ?_
    refine zv_goto (pc := 10) (tgt := 14) B rfl dX0_isIn_10 ?_
    exact zv_zret (pc := 14) B (1) rfl hr (fun H hP => ⟨(), congrArg (fun z => some (Value.int z)) (show 1 = r_X0_isIn x y from (by unfold r_X0_isIn; rw [if_pos h1])), hP⟩) (Nat.le_of_ble_eq_true rfl) (Nat.le_of_ble_eq_true rfl) dX0_isIn_14

def r_X4_limited (x y : Int32) : Int32 := if y < (zabs x) then (if 0 ≤ x then (y + (((zabs x) - y) / 4)) else (-(y + (((zabs x) - y) / 4)))) else x
set_option maxRecDepth 100000 in
set_option maxHeartbeats 4000000 in
theorem k_X4_limited (l : Launch) (E : zE) (b : Nat) {P : Heap → Prop} (x y : Int32) : zM l yX4_limited (.code yX4_limited cX4_limited 4 (some .int) :: zAll) (zRm 1 0 0) E b [.int x, .int y] (P) (fun v9 (_ : Unit) => v9 = some (.int (r_X4_limited x y))) (fun _ => P) 0 0 := by
  refine zM_of "ToneGraph$Track" (by decide) rfl rfl (Nat.le_of_ble_eq_true rfl) (L0 := [(0, .int x), (1, .int y)]) rfl ?_
  intro p e s m args below meth c9 B hr hname
  refine zv_iload_n (pc := 0) B 0 rfl dX4_limited_0 ?_
  refine zv_mabs (pc := 1) B wm_X4_149 ws_Math_abs wn_Math wcode_Math_abs (Nat.le_of_ble_eq_true rfl) (Nat.le_of_ble_eq_true rfl) (Nat.le_of_ble_eq_true rfl) (Nat.le_of_ble_eq_true rfl) dX4_limited_1 ?_
  refine zv_istore_n (pc := 4) (L' := [(2, .int (zabs x)), (0, .int x), (1, .int y)]) B (by decide) rfl dX4_limited_4 ?_
  refine zv_iload_n (pc := 5) B 0 rfl dX4_limited_5 ?_
  refine zv_iload_n (pc := 6) B 2 rfl dX4_limited_6 ?_
  refine zv_icmp_gt (pc := 7) (tgt := 12) B dX4_limited_7 rfl (fun h1 => ?_) (fun h1 => ?_)
  · refine zv_iload_n (pc := 12) B 2 rfl dX4_limited_12 ?_
    refine zv_iload_n (pc := 13) B 0 rfl dX4_limited_13 ?_
    refine zv_iload_n (pc := 14) B 2 rfl dX4_limited_14 ?_
    refine zv_isub (pc := 15) B dX4_limited_15 ?_
    refine zv_iconst (pc := 16) (v := 4) B rfl dX4_limited_16 ?_
    refine zv_idiv (pc := 17) B (by decide) dX4_limited_17 ?_
    refine zv_iadd (pc := 18) B dX4_limited_18 ?_
    refine zv_istore_n (pc := 19) (L' := [(3, .int (y + (((zabs x) - y) / 4))), (2, .int (zabs x)), (0, .int x), (1, .int y)]) B (by decide) rfl dX4_limited_19 ?_
    refine zv_iload_n (pc := 20) B 2 rfl dX4_limited_20 ?_
    refine zv_if_ge (pc := 21) (tgt := 29) B dX4_limited_21 rfl (fun h2 => ?_) (fun h2 => ?_)
    · refine zv_iload_n (pc := 29) B 0 rfl dX4_limited_29 ?_
      exact zv_iret (pc := 30) B (y + (((zabs x) - y) / 4)) hr (fun H hP => ⟨(), congrArg (fun z => some (Value.int z)) (show (y + (((zabs x) - y) / 4)) = r_X4_limited x y from (by unfold r_X4_limited; rw [if_pos h1, if_pos h2])), hP⟩) (Nat.le_of_ble_eq_true rfl) (Nat.le_of_ble_eq_true rfl) dX4_limited_30
    · refine zv_iload_n (pc := 24) B 0 rfl dX4_limited_24 ?_
      refine zv_ineg (pc := 25) B dX4_limited_25 ?_
      refine zv_goto (pc := 26) (tgt := 30) B rfl dX4_limited_26 ?_
      exact zv_iret (pc := 30) B (-(y + (((zabs x) - y) / 4))) hr (fun H hP => ⟨(), congrArg (fun z => some (Value.int z)) (show (-(y + (((zabs x) - y) / 4))) = r_X4_limited x y from (by unfold r_X4_limited; rw [if_pos h1, if_neg h2])), hP⟩) (Nat.le_of_ble_eq_true rfl) (Nat.le_of_ble_eq_true rfl) dX4_limited_30
  · refine zv_iload_n (pc := 10) B 1 rfl dX4_limited_10 ?_
    exact zv_iret (pc := 11) B (x) hr (fun H hP => ⟨(), congrArg (fun z => some (Value.int z)) (show x = r_X4_limited x y from (by unfold r_X4_limited; rw [if_neg h1])), hP⟩) (Nat.le_of_ble_eq_true rfl) (Nat.le_of_ble_eq_true rfl) dX4_limited_11

def r_X7_in (x y z : Int32) : Int32 := if x < y then 0 else (if z < x then 0 else 1)
set_option maxRecDepth 100000 in
set_option maxHeartbeats 4000000 in
theorem k_X7_in (l : Launch) (E : zE) (b : Nat) {P : Heap → Prop} (x y z : Int32) : zM l yX7_in (.code yX7_in cX7_in 3 (some .boolean) :: zAll) (zRm 0 0 0) E b [.int x, .int y, .int z] (P) (fun v9 (_ : Unit) => v9 = some (.int (r_X7_in x y z))) (fun _ => P) 0 0 := by
  refine zM_of "ToneGraphModel" (by decide) rfl rfl (Nat.le_of_ble_eq_true rfl) (L0 := [(0, .int x), (1, .int y), (2, .int z)]) rfl ?_
  intro p e s m args below meth c9 B hr hname
  refine zv_iload_n (pc := 0) B 0 rfl dX7_in_0 ?_
  refine zv_iload_n (pc := 1) B 1 rfl dX7_in_1 ?_
  refine zv_icmp_lt (pc := 2) (tgt := 14) B dX7_in_2 rfl (fun h1 => ?_) (fun h1 => ?_)
  · refine zv_iconst (pc := 14) (v := 0) B rfl dX7_in_14 ?_
    exact zv_zret (pc := 15) B (0) rfl hr (fun H hP => ⟨(), congrArg (fun z => some (Value.int z)) (show 0 = r_X7_in x y z from (by unfold r_X7_in; rw [if_pos h1])), hP⟩) (Nat.le_of_ble_eq_true rfl) (Nat.le_of_ble_eq_true rfl) dX7_in_15
  · refine zv_iload_n (pc := 5) B 0 rfl dX7_in_5 ?_
    refine zv_iload_n (pc := 6) B 2 rfl dX7_in_6 ?_
    refine zv_icmp_gt (pc := 7) (tgt := 14) B dX7_in_7 rfl (fun h2 => ?_) (fun h2 => ?_)
    · refine zv_iconst (pc := 14) (v := 0) B rfl dX7_in_14 ?_
      exact zv_zret (pc := 15) B (0) rfl hr (fun H hP => ⟨(), congrArg (fun z => some (Value.int z)) (show 0 = r_X7_in x y z from (by unfold r_X7_in; rw [if_neg h1, if_pos h2])), hP⟩) (Nat.le_of_ble_eq_true rfl) (Nat.le_of_ble_eq_true rfl) dX7_in_15
    · refine zv_iconst (pc := 10) (v := 1) B rfl dX7_in_10 ?_
      refine zv_goto (pc := 11) (tgt := 15) B rfl dX7_in_11 ?_
      exact zv_zret (pc := 15) B (1) rfl hr (fun H hP => ⟨(), congrArg (fun z => some (Value.int z)) (show 1 = r_X7_in x y z from (by unfold r_X7_in; rw [if_neg h1, if_neg h2])), hP⟩) (Nat.le_of_ble_eq_true rfl) (Nat.le_of_ble_eq_true rfl) dX7_in_15

theorem r_X7_in_01 (x y z : Int32) : r_X7_in x y z = 0 ∨ r_X7_in x y z = 1 := by
  unfold r_X7_in
  by_cases h1 : x < y
  · rw [if_pos h1]; exact Or.inl rfl
  · rw [if_neg h1]
    by_cases h2 : z < x
    · rw [if_pos h2]; exact Or.inl rfl
    · rw [if_neg h2]; exact Or.inr rfl
theorem znb {z : Int32} (h : z = 0 ∨ z = 1) : narrow .boolean (.int z) = .int z := by rcases h with rfl | rfl <;> rfl
def r_X7_cut (x : Int32) : Int32 := if x ≤ 32767 then (if (-32767) ≤ x then x else (-32767)) else 32767
set_option maxRecDepth 100000 in
set_option maxHeartbeats 4000000 in
theorem k_X7_cut (l : Launch) (E : zE) (b : Nat) {P : Heap → Prop} (x : Int32) : zM l yX7_cut (.code yX7_cut cX7_cut 1 (some .int) :: zAll) (zRm 0 0 0) E b [.int x] (P) (fun v9 (_ : Unit) => v9 = some (.int (r_X7_cut x))) (fun _ => P) 0 0 := by
  refine zM_of "ToneGraphModel" (by decide) rfl rfl (Nat.le_of_ble_eq_true rfl) (L0 := [(0, .int x)]) rfl ?_
  intro p e s m args below meth c9 B hr hname
  refine zv_iload_n (pc := 0) B 0 rfl dX7_cut_0 ?_
  refine zv_sipush (pc := 1) (v := 32767) B rfl dX7_cut_1 ?_
  refine zv_icmp_le (pc := 4) (tgt := 13) B dX7_cut_4 rfl (fun h1 => ?_) (fun h1 => ?_)
  · refine zv_iload_n (pc := 13) B 0 rfl dX7_cut_13 ?_
    refine zv_sipush (pc := 14) (v := (-32767)) B rfl dX7_cut_14 ?_
    refine zv_icmp_ge (pc := 17) (tgt := 26) B dX7_cut_17 rfl (fun h2 => ?_) (fun h2 => ?_)
    · refine zv_iload_n (pc := 26) B 0 rfl dX7_cut_26 ?_
      exact zv_iret (pc := 27) B (x) hr (fun H hP => ⟨(), congrArg (fun z => some (Value.int z)) (show x = r_X7_cut x from (by unfold r_X7_cut; rw [if_pos h1, if_pos h2])), hP⟩) (Nat.le_of_ble_eq_true rfl) (Nat.le_of_ble_eq_true rfl) dX7_cut_27
    · refine zv_sipush (pc := 20) (v := (-32767)) B rfl dX7_cut_20 ?_
      refine zv_goto (pc := 23) (tgt := 27) B rfl dX7_cut_23 ?_
      exact zv_iret (pc := 27) B ((-32767)) hr (fun H hP => ⟨(), congrArg (fun z => some (Value.int z)) (show (-32767) = r_X7_cut x from (by unfold r_X7_cut; rw [if_pos h1, if_neg h2])), hP⟩) (Nat.le_of_ble_eq_true rfl) (Nat.le_of_ble_eq_true rfl) dX7_cut_27
  · refine zv_sipush (pc := 7) (v := 32767) B rfl dX7_cut_7 ?_
    refine zv_goto (pc := 10) (tgt := 27) B rfl dX7_cut_10 ?_
    exact zv_iret (pc := 27) B (32767) hr (fun H hP => ⟨(), congrArg (fun z => some (Value.int z)) (show 32767 = r_X7_cut x from (by unfold r_X7_cut; rw [if_neg h1])), hP⟩) (Nat.le_of_ble_eq_true rfl) (Nat.le_of_ble_eq_true rfl) dX7_cut_27

def r_X7_size (x : Int32) : Int32 := if 0 ≤ x then x else (-x)
set_option maxRecDepth 100000 in
set_option maxHeartbeats 4000000 in
theorem k_X7_size (l : Launch) (E : zE) (b : Nat) {P : Heap → Prop} (x : Int32) : zM l yX7_size (.code yX7_size cX7_size 1 (some .int) :: zAll) (zRm 0 0 0) E b [.int x] (P) (fun v9 (_ : Unit) => v9 = some (.int (r_X7_size x))) (fun _ => P) 0 0 := by
  refine zM_of "ToneGraphModel" (by decide) rfl rfl (Nat.le_of_ble_eq_true rfl) (L0 := [(0, .int x)]) rfl ?_
  intro p e s m args below meth c9 B hr hname
  refine zv_iload_n (pc := 0) B 0 rfl dX7_size_0 ?_
  refine zv_if_ge (pc := 1) (tgt := 9) B dX7_size_1 rfl (fun h1 => ?_) (fun h1 => ?_)
  · refine zv_iload_n (pc := 9) B 0 rfl dX7_size_9 ?_
    exact zv_iret (pc := 10) B (x) hr (fun H hP => ⟨(), congrArg (fun z => some (Value.int z)) (show x = r_X7_size x from (by unfold r_X7_size; rw [if_pos h1])), hP⟩) (Nat.le_of_ble_eq_true rfl) (Nat.le_of_ble_eq_true rfl) dX7_size_10
  · refine zv_iload_n (pc := 4) B 0 rfl dX7_size_4 ?_
    refine zv_ineg (pc := 5) B dX7_size_5 ?_
    refine zv_goto (pc := 6) (tgt := 10) B rfl dX7_size_6 ?_
    exact zv_iret (pc := 10) B (-x) hr (fun H hP => ⟨(), congrArg (fun z => some (Value.int z)) (show (-x) = r_X7_size x from (by unfold r_X7_size; rw [if_neg h1])), hP⟩) (Nat.le_of_ble_eq_true rfl) (Nat.le_of_ble_eq_true rfl) dX7_size_10

def r_X7_limited (x y : Int32) : Int32 := if y < (r_X7_size x) then (if 0 ≤ x then (y + (((r_X7_size x) - y) / 4)) else (-(y + (((r_X7_size x) - y) / 4)))) else x
set_option maxRecDepth 100000 in
set_option maxHeartbeats 4000000 in
theorem k_X7_limited (l : Launch) (E : zE) (b : Nat) {P : Heap → Prop} (x y : Int32) : zM l yX7_limited (.code yX7_limited cX7_limited 3 (some .int) :: zAll) (zRm 1 0 0) E b [.int x, .int y] (P) (fun v9 (_ : Unit) => v9 = some (.int (r_X7_limited x y))) (fun _ => P) 0 0 := by
  refine zM_of "ToneGraphModel" (by decide) rfl rfl (Nat.le_of_ble_eq_true rfl) (L0 := [(0, .int x), (1, .int y)]) rfl ?_
  intro p e s m args below meth c9 B hr hname
  refine zv_iload_n (pc := 0) B 0 rfl dX7_limited_0 ?_
  refine zv_callS (pc := 1) (As := [.int x]) (rest := []) B (k_X7_size l E b x) (zcwS 1 0 B wm_X7_186 ws_X7_size wn_X7 wcode_X7_size (by decide +kernel) ⟨(Nat.le_of_ble_eq_true rfl), (Nat.le_of_ble_eq_true rfl)⟩) rfl zid rfl (Nat.le_of_ble_eq_true rfl) dX7_limited_1 ⟨(Nat.le_of_ble_eq_true rfl), (Nat.le_of_ble_eq_true rfl)⟩ (fun v9 u9 hv9 => ?_)
  subst hv9
  refine zv_st (st' := [.int (r_X7_size x)]) rfl ?_
  refine zv_iload_n (pc := 4) B 1 rfl dX7_limited_4 ?_
  refine zv_icmp_gt (pc := 5) (tgt := 10) B dX7_limited_5 rfl (fun h1 => ?_) (fun h1 => ?_)
  · refine zv_iload_n (pc := 10) B 1 rfl dX7_limited_10 ?_
    refine zv_iload_n (pc := 11) B 0 rfl dX7_limited_11 ?_
    refine zv_callS (pc := 12) (As := [.int x]) (rest := [.int y]) B (k_X7_size l E b x) (zcwS 1 0 B wm_X7_186 ws_X7_size wn_X7 wcode_X7_size (by decide +kernel) ⟨(Nat.le_of_ble_eq_true rfl), (Nat.le_of_ble_eq_true rfl)⟩) rfl zid rfl (Nat.le_of_ble_eq_true rfl) dX7_limited_12 ⟨(Nat.le_of_ble_eq_true rfl), (Nat.le_of_ble_eq_true rfl)⟩ (fun v9 u9 hv9 => ?_)
    subst hv9
    refine zv_st (st' := [.int (r_X7_size x), .int y]) rfl ?_
    refine zv_iload_n (pc := 15) B 1 rfl dX7_limited_15 ?_
    refine zv_isub (pc := 16) B dX7_limited_16 ?_
    refine zv_iconst (pc := 17) (v := 4) B rfl dX7_limited_17 ?_
    refine zv_idiv (pc := 18) B (by decide) dX7_limited_18 ?_
    refine zv_iadd (pc := 19) B dX7_limited_19 ?_
    refine zv_istore_n (pc := 20) (L' := [(2, .int (y + (((r_X7_size x) - y) / 4))), (0, .int x), (1, .int y)]) B (by decide) rfl dX7_limited_20 ?_
    refine zv_iload_n (pc := 21) B 1 rfl dX7_limited_21 ?_
    refine zv_if_ge (pc := 22) (tgt := 30) B dX7_limited_22 rfl (fun h2 => ?_) (fun h2 => ?_)
    · refine zv_iload_n (pc := 30) B 0 rfl dX7_limited_30 ?_
      exact zv_iret (pc := 31) B (y + (((r_X7_size x) - y) / 4)) hr (fun H hP => ⟨(), congrArg (fun z => some (Value.int z)) (show (y + (((r_X7_size x) - y) / 4)) = r_X7_limited x y from (by unfold r_X7_limited; rw [if_pos h1, if_pos h2])), hP⟩) (Nat.le_of_ble_eq_true rfl) (Nat.le_of_ble_eq_true rfl) dX7_limited_31
    · refine zv_iload_n (pc := 25) B 0 rfl dX7_limited_25 ?_
      refine zv_ineg (pc := 26) B dX7_limited_26 ?_
      refine zv_goto (pc := 27) (tgt := 31) B rfl dX7_limited_27 ?_
      exact zv_iret (pc := 31) B (-(y + (((r_X7_size x) - y) / 4))) hr (fun H hP => ⟨(), congrArg (fun z => some (Value.int z)) (show (-(y + (((r_X7_size x) - y) / 4))) = r_X7_limited x y from (by unfold r_X7_limited; rw [if_pos h1, if_neg h2])), hP⟩) (Nat.le_of_ble_eq_true rfl) (Nat.le_of_ble_eq_true rfl) dX7_limited_31
  · refine zv_iload_n (pc := 8) B 0 rfl dX7_limited_8 ?_
    exact zv_iret (pc := 9) B (x) hr (fun H hP => ⟨(), congrArg (fun z => some (Value.int z)) (show x = r_X7_limited x y from (by unfold r_X7_limited; rw [if_neg h1])), hP⟩) (Nat.le_of_ble_eq_true rfl) (Nat.le_of_ble_eq_true rfl) dX7_limited_9

def r_X7_valueOf (x y : Int32) : Int32 := if x = 115 then ((y / 32) - 1024) else (if x = 113 then (if 32768 ≤ y then (-1000) else 1000) else (if 32768 ≤ y then (((65535 - y) / 16) - 1024) else ((y / 16) - 1024)))
set_option maxRecDepth 100000 in
set_option maxHeartbeats 4000000 in
theorem k_X7_valueOf (l : Launch) (E : zE) (b : Nat) {P : Heap → Prop} (x y : Int32) : zM l yX7_valueOf (.code yX7_valueOf cX7_valueOf 2 (some .int) :: zAll) (zRm 0 0 0) E b [.int x, .int y] (P) (fun v9 (_ : Unit) => v9 = some (.int (r_X7_valueOf x y))) (fun _ => P) 0 0 := by
  refine zM_of "ToneGraphModel" (by decide) rfl rfl (Nat.le_of_ble_eq_true rfl) (L0 := [(0, .int x), (1, .int y)]) rfl ?_
  intro p e s m args below meth c9 B hr hname
  refine zv_iload_n (pc := 0) B 0 rfl dX7_valueOf_0 ?_
  refine zv_bipush (pc := 1) (v := 115) B rfl dX7_valueOf_1 ?_
  refine zv_icmp_ne (pc := 3) (tgt := 15) B dX7_valueOf_3 rfl (fun h1 => ?_) (fun h1 => ?_)
  · refine zv_iload_n (pc := 15) B 0 rfl dX7_valueOf_15 ?_
    refine zv_bipush (pc := 16) (v := 113) B rfl dX7_valueOf_16 ?_
    refine zv_icmp_ne (pc := 18) (tgt := 37) B dX7_valueOf_18 rfl (fun h2 => ?_) (fun h2 => ?_)
    · refine zv_iload_n (pc := 37) B 1 rfl dX7_valueOf_37 ?_
      refine zv_ldc (pc := 38) (v := 32768) B (B.at wk_X7_168) dX7_valueOf_38 ?_
      refine zv_icmp_ge (pc := 40) (tgt := 47) B dX7_valueOf_40 rfl (fun h3 => ?_) (fun h3 => ?_)
      · refine zv_ldc (pc := 47) (v := 65535) B (B.at wk_X7_169) dX7_valueOf_47 ?_
        refine zv_iload_n (pc := 49) B 1 rfl dX7_valueOf_49 ?_
        refine zv_isub (pc := 50) B dX7_valueOf_50 ?_
        refine zv_bipush (pc := 51) (v := 16) B rfl dX7_valueOf_51 ?_
        refine zv_idiv (pc := 53) B (by decide) dX7_valueOf_53 ?_
        refine zv_sipush (pc := 54) (v := 1024) B rfl dX7_valueOf_54 ?_
        refine zv_isub (pc := 57) B dX7_valueOf_57 ?_
        exact zv_iret (pc := 58) B (((65535 - y) / 16) - 1024) hr (fun H hP => ⟨(), congrArg (fun z => some (Value.int z)) (show (((65535 - y) / 16) - 1024) = r_X7_valueOf x y from (by unfold r_X7_valueOf; rw [if_neg h1, if_neg h2, if_pos h3])), hP⟩) (Nat.le_of_ble_eq_true rfl) (Nat.le_of_ble_eq_true rfl) dX7_valueOf_58
      · refine zv_iload_n (pc := 43) B 1 rfl dX7_valueOf_43 ?_
        refine zv_goto (pc := 44) (tgt := 51) B rfl dX7_valueOf_44 ?_
        refine zv_bipush (pc := 51) (v := 16) B rfl dX7_valueOf_51 ?_
        refine zv_idiv (pc := 53) B (by decide) dX7_valueOf_53 ?_
        refine zv_sipush (pc := 54) (v := 1024) B rfl dX7_valueOf_54 ?_
        refine zv_isub (pc := 57) B dX7_valueOf_57 ?_
        exact zv_iret (pc := 58) B ((y / 16) - 1024) hr (fun H hP => ⟨(), congrArg (fun z => some (Value.int z)) (show ((y / 16) - 1024) = r_X7_valueOf x y from (by unfold r_X7_valueOf; rw [if_neg h1, if_neg h2, if_neg h3])), hP⟩) (Nat.le_of_ble_eq_true rfl) (Nat.le_of_ble_eq_true rfl) dX7_valueOf_58
    · refine zv_iload_n (pc := 21) B 1 rfl dX7_valueOf_21 ?_
      refine zv_ldc (pc := 22) (v := 32768) B (B.at wk_X7_168) dX7_valueOf_22 ?_
      refine zv_icmp_ge (pc := 24) (tgt := 33) B dX7_valueOf_24 rfl (fun h4 => ?_) (fun h4 => ?_)
      · refine zv_sipush (pc := 33) (v := (-1000)) B rfl dX7_valueOf_33 ?_
        exact zv_iret (pc := 36) B ((-1000)) hr (fun H hP => ⟨(), congrArg (fun z => some (Value.int z)) (show (-1000) = r_X7_valueOf x y from (by unfold r_X7_valueOf; rw [if_neg h1, if_pos h2, if_pos h4])), hP⟩) (Nat.le_of_ble_eq_true rfl) (Nat.le_of_ble_eq_true rfl) dX7_valueOf_36
      · refine zv_sipush (pc := 27) (v := 1000) B rfl dX7_valueOf_27 ?_
        refine zv_goto (pc := 30) (tgt := 36) B rfl dX7_valueOf_30 ?_
        exact zv_iret (pc := 36) B (1000) hr (fun H hP => ⟨(), congrArg (fun z => some (Value.int z)) (show 1000 = r_X7_valueOf x y from (by unfold r_X7_valueOf; rw [if_neg h1, if_pos h2, if_neg h4])), hP⟩) (Nat.le_of_ble_eq_true rfl) (Nat.le_of_ble_eq_true rfl) dX7_valueOf_36
  · refine zv_iload_n (pc := 6) B 1 rfl dX7_valueOf_6 ?_
    refine zv_bipush (pc := 7) (v := 32) B rfl dX7_valueOf_7 ?_
    refine zv_idiv (pc := 9) B (by decide) dX7_valueOf_9 ?_
    refine zv_sipush (pc := 10) (v := 1024) B rfl dX7_valueOf_10 ?_
    refine zv_isub (pc := 13) B dX7_valueOf_13 ?_
    exact zv_iret (pc := 14) B ((y / 32) - 1024) hr (fun H hP => ⟨(), congrArg (fun z => some (Value.int z)) (show ((y / 32) - 1024) = r_X7_valueOf x y from (by unfold r_X7_valueOf; rw [if_pos h1])), hP⟩) (Nat.le_of_ble_eq_true rfl) (Nat.le_of_ble_eq_true rfl) dX7_valueOf_14

def r_X7_baseOf (x : Int32) : Int32 := if 6 ≤ x then (if 11 ≤ x then 121 else (90 + (6 * (x - 6)))) else (if 3 ≤ x then (if x = 3 then 76 else (if x = 4 then 81 else 85)) else (64 + (4 * x)))
set_option maxRecDepth 100000 in
set_option maxHeartbeats 4000000 in
theorem k_X7_baseOf (l : Launch) (E : zE) (b : Nat) {P : Heap → Prop} (x : Int32) : zM l yX7_baseOf (.code yX7_baseOf cX7_baseOf 1 (some .int) :: zAll) (zRm 0 0 0) E b [.int x] (P) (fun v9 (_ : Unit) => v9 = some (.int (r_X7_baseOf x))) (fun _ => P) 0 0 := by
  refine zM_of "ToneGraphModel" (by decide) rfl rfl (Nat.le_of_ble_eq_true rfl) (L0 := [(0, .int x)]) rfl ?_
  intro p e s m args below meth c9 B hr hname
  refine zv_iload_n (pc := 0) B 0 rfl dX7_baseOf_0 ?_
  refine zv_bipush (pc := 1) (v := 6) B rfl dX7_baseOf_1 ?_
  refine zv_icmp_ge (pc := 3) (tgt := 43) B dX7_baseOf_3 rfl (fun h1 => ?_) (fun h1 => ?_)
  · refine zv_iload_n (pc := 43) B 0 rfl dX7_baseOf_43 ?_
    refine zv_bipush (pc := 44) (v := 11) B rfl dX7_baseOf_44 ?_
    refine zv_icmp_ge (pc := 46) (tgt := 62) B dX7_baseOf_46 rfl (fun h2 => ?_) (fun h2 => ?_)
    · refine zv_bipush (pc := 62) (v := 121) B rfl dX7_baseOf_62 ?_
      exact zv_iret (pc := 64) B (121) hr (fun H hP => ⟨(), congrArg (fun z => some (Value.int z)) (show 121 = r_X7_baseOf x from (by unfold r_X7_baseOf; rw [if_pos h1, if_pos h2])), hP⟩) (Nat.le_of_ble_eq_true rfl) (Nat.le_of_ble_eq_true rfl) dX7_baseOf_64
    · refine zv_bipush (pc := 49) (v := 90) B rfl dX7_baseOf_49 ?_
      refine zv_bipush (pc := 51) (v := 6) B rfl dX7_baseOf_51 ?_
      refine zv_iload_n (pc := 53) B 0 rfl dX7_baseOf_53 ?_
      refine zv_bipush (pc := 54) (v := 6) B rfl dX7_baseOf_54 ?_
      refine zv_isub (pc := 56) B dX7_baseOf_56 ?_
      refine zv_imul (pc := 57) B dX7_baseOf_57 ?_
      refine zv_iadd (pc := 58) B dX7_baseOf_58 ?_
      refine zv_goto (pc := 59) (tgt := 64) B rfl dX7_baseOf_59 ?_
      exact zv_iret (pc := 64) B (90 + (6 * (x - 6))) hr (fun H hP => ⟨(), congrArg (fun z => some (Value.int z)) (show (90 + (6 * (x - 6))) = r_X7_baseOf x from (by unfold r_X7_baseOf; rw [if_pos h1, if_neg h2])), hP⟩) (Nat.le_of_ble_eq_true rfl) (Nat.le_of_ble_eq_true rfl) dX7_baseOf_64
  · refine zv_iload_n (pc := 6) B 0 rfl dX7_baseOf_6 ?_
    refine zv_iconst (pc := 7) (v := 3) B rfl dX7_baseOf_7 ?_
    refine zv_icmp_ge (pc := 8) (tgt := 20) B dX7_baseOf_8 rfl (fun h3 => ?_) (fun h3 => ?_)
    · refine zv_iload_n (pc := 20) B 0 rfl dX7_baseOf_20 ?_
      refine zv_iconst (pc := 21) (v := 3) B rfl dX7_baseOf_21 ?_
      refine zv_icmp_ne (pc := 22) (tgt := 30) B dX7_baseOf_22 rfl (fun h4 => ?_) (fun h4 => ?_)
      · refine zv_iload_n (pc := 30) B 0 rfl dX7_baseOf_30 ?_
        refine zv_iconst (pc := 31) (v := 4) B rfl dX7_baseOf_31 ?_
        refine zv_icmp_ne (pc := 32) (tgt := 40) B dX7_baseOf_32 rfl (fun h5 => ?_) (fun h5 => ?_)
        · refine zv_bipush (pc := 40) (v := 85) B rfl dX7_baseOf_40 ?_
          exact zv_iret (pc := 42) B (85) hr (fun H hP => ⟨(), congrArg (fun z => some (Value.int z)) (show 85 = r_X7_baseOf x from (by unfold r_X7_baseOf; rw [if_neg h1, if_pos h3, if_neg h4, if_neg h5])), hP⟩) (Nat.le_of_ble_eq_true rfl) (Nat.le_of_ble_eq_true rfl) dX7_baseOf_42
        · refine zv_bipush (pc := 35) (v := 81) B rfl dX7_baseOf_35 ?_
          refine zv_goto (pc := 37) (tgt := 42) B rfl dX7_baseOf_37 ?_
          exact zv_iret (pc := 42) B (81) hr (fun H hP => ⟨(), congrArg (fun z => some (Value.int z)) (show 81 = r_X7_baseOf x from (by unfold r_X7_baseOf; rw [if_neg h1, if_pos h3, if_neg h4, if_pos h5])), hP⟩) (Nat.le_of_ble_eq_true rfl) (Nat.le_of_ble_eq_true rfl) dX7_baseOf_42
      · refine zv_bipush (pc := 25) (v := 76) B rfl dX7_baseOf_25 ?_
        refine zv_goto (pc := 27) (tgt := 42) B rfl dX7_baseOf_27 ?_
        exact zv_iret (pc := 42) B (76) hr (fun H hP => ⟨(), congrArg (fun z => some (Value.int z)) (show 76 = r_X7_baseOf x from (by unfold r_X7_baseOf; rw [if_neg h1, if_pos h3, if_pos h4])), hP⟩) (Nat.le_of_ble_eq_true rfl) (Nat.le_of_ble_eq_true rfl) dX7_baseOf_42
    · refine zv_bipush (pc := 11) (v := 64) B rfl dX7_baseOf_11 ?_
      refine zv_iconst (pc := 13) (v := 4) B rfl dX7_baseOf_13 ?_
      refine zv_iload_n (pc := 14) B 0 rfl dX7_baseOf_14 ?_
      refine zv_imul (pc := 15) B dX7_baseOf_15 ?_
      refine zv_iadd (pc := 16) B dX7_baseOf_16 ?_
      refine zv_goto (pc := 17) (tgt := 42) B rfl dX7_baseOf_17 ?_
      exact zv_iret (pc := 42) B (64 + (4 * x)) hr (fun H hP => ⟨(), congrArg (fun z => some (Value.int z)) (show (64 + (4 * x)) = r_X7_baseOf x from (by unfold r_X7_baseOf; rw [if_neg h1, if_neg h3])), hP⟩) (Nat.le_of_ble_eq_true rfl) (Nat.le_of_ble_eq_true rfl) dX7_baseOf_42

def r_X7_stepOf (x : Int32) : Int32 := (r_X7_baseOf (x - x / 12 * 12)) <<< ((x / 12) &&& 31)
set_option maxRecDepth 100000 in
set_option maxHeartbeats 4000000 in
theorem k_X7_stepOf (l : Launch) (E : zE) (b : Nat) {P : Heap → Prop} (x : Int32) : zM l yX7_stepOf (.code yX7_stepOf cX7_stepOf 1 (some .int) :: zAll) (zRm 1 0 0) E b [.int x] (P) (fun v9 (_ : Unit) => v9 = some (.int (r_X7_stepOf x))) (fun _ => P) 0 0 := by
  refine zM_of "ToneGraphModel" (by decide) rfl rfl (Nat.le_of_ble_eq_true rfl) (L0 := [(0, .int x)]) rfl ?_
  intro p e s m args below meth c9 B hr hname
  refine zv_iload_n (pc := 0) B 0 rfl dX7_stepOf_0 ?_
  refine zv_bipush (pc := 1) (v := 12) B rfl dX7_stepOf_1 ?_
  refine zv_irem (pc := 3) B (by decide) dX7_stepOf_3 ?_
  refine zv_callS (pc := 4) (As := [.int (x - x / 12 * 12)]) (rest := []) B (k_X7_baseOf l E b (x - x / 12 * 12)) (zcwS 1 0 B wm_X7_165 ws_X7_baseOf wn_X7 wcode_X7_baseOf (by decide +kernel) ⟨(Nat.le_of_ble_eq_true rfl), (Nat.le_of_ble_eq_true rfl)⟩) rfl zid rfl (Nat.le_of_ble_eq_true rfl) dX7_stepOf_4 ⟨(Nat.le_of_ble_eq_true rfl), (Nat.le_of_ble_eq_true rfl)⟩ (fun v9 u9 hv9 => ?_)
  subst hv9
  refine zv_st (st' := [.int (r_X7_baseOf (x - x / 12 * 12))]) rfl ?_
  refine zv_iload_n (pc := 7) B 0 rfl dX7_stepOf_7 ?_
  refine zv_bipush (pc := 8) (v := 12) B rfl dX7_stepOf_8 ?_
  refine zv_idiv (pc := 10) B (by decide) dX7_stepOf_10 ?_
  refine zv_ishl (pc := 11) B dX7_stepOf_11 ?_
  exact zv_iret (pc := 12) B ((r_X7_baseOf (x - x / 12 * 12)) <<< ((x / 12) &&& 31)) hr (fun H hP => ⟨(), congrArg (fun z => some (Value.int z)) (show ((r_X7_baseOf (x - x / 12 * 12)) <<< ((x / 12) &&& 31)) = r_X7_stepOf x from (by unfold r_X7_stepOf; rfl)), hP⟩) (Nat.le_of_ble_eq_true rfl) (Nat.le_of_ble_eq_true rfl) dX7_stepOf_12

def r_X7_isVoice (x : Int32) : Int32 := r_X7_in x 0 3
set_option maxRecDepth 100000 in
set_option maxHeartbeats 4000000 in
theorem k_X7_isVoice (l : Launch) (E : zE) (b : Nat) {P : Heap → Prop} (x : Int32) : zM l yX7_isVoice (.code yX7_isVoice cX7_isVoice 1 (some .boolean) :: zAll) (zRm 1 0 0) E b [.int x] (P) (fun v9 (_ : Unit) => v9 = some (.int (r_X7_isVoice x))) (fun _ => P) 0 0 := by
  refine zM_of "ToneGraphModel" (by decide) rfl rfl (Nat.le_of_ble_eq_true rfl) (L0 := [(0, .int x)]) rfl ?_
  intro p e s m args below meth c9 B hr hname
  refine zv_iload_n (pc := 0) B 0 rfl dX7_isVoice_0 ?_
  refine zv_iconst (pc := 1) (v := 0) B rfl dX7_isVoice_1 ?_
  refine zv_iconst (pc := 2) (v := 3) B rfl dX7_isVoice_2 ?_
  refine zv_callS (pc := 3) (As := [.int x, .int 0, .int 3]) (rest := []) B (k_X7_in l E b x 0 3) (zcwS 3 0 B wm_X7_94 ws_X7_in wn_X7 wcode_X7_in (by decide +kernel) ⟨(Nat.le_of_ble_eq_true rfl), (Nat.le_of_ble_eq_true rfl)⟩) rfl zid rfl (Nat.le_of_ble_eq_true rfl) dX7_isVoice_3 ⟨(Nat.le_of_ble_eq_true rfl), (Nat.le_of_ble_eq_true rfl)⟩ (fun v9 u9 hv9 => ?_)
  subst hv9
  refine zv_st (st' := [.int (r_X7_in x 0 3)]) rfl ?_
  exact zv_zret (pc := 6) B (r_X7_in x 0 3) (znb (r_X7_in_01 _ _ _)) hr (fun H hP => ⟨(), congrArg (fun z => some (Value.int z)) (show (r_X7_in x 0 3) = r_X7_isVoice x from (by unfold r_X7_isVoice; rfl)), hP⟩) (Nat.le_of_ble_eq_true rfl) (Nat.le_of_ble_eq_true rfl) dX7_isVoice_6
