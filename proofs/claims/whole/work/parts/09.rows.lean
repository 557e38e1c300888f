/-! rows that read and write the system's picture -/
def zup (c : Nat → Nat → Int32) (i k : Nat) (v : Int32) : Nat → Nat → Int32 := va_up c i (upd (c i) k v)
theorem zup_s (c : Nat → Nat → Int32) (i k : Nat) (v : Int32) : zup c i k v i k = v := by simp [zup, va_up, upd]
theorem zup_k (c : Nat → Nat → Int32) {i k k' : Nat} (v : Int32) (h : k' ≠ k) : zup c i k v i k' = c i k' := by simp [zup, va_up, upd, h]
theorem zup_i (c : Nat → Nat → Int32) {i i' : Nat} (k : Nat) (v : Int32) (h : i' ≠ i) : zup c i k v i' = c i' := by simp [zup, va_up, h]
theorem zup_at (c : Nat → Nat → Int32) (i k : Nat) (v : Int32) (i' k' : Nat) : zup c i k v i' k' = if i' = i ∧ k' = k then v else c i' k' := by
  by_cases h : i' = i <;> by_cases h2 : k' = k <;> simp [zup, va_up, upd, h, h2]
theorem zat {E : zE} {b : Nat} {c : Nat → Nat → Int32} {w : Nat → Int64} {en : Nat → Nat} {ea : Nat → Nat → Int32} {i : Nat} {e0 : va_E} (hi : i < 126) (hc : zcell E b i (c i) (w i) (en i) = some e0) : ∀ H, zH E b c w en ea H → va_at E.1 vwCl (b + i, e0) H := fun H h => h.1 i e0 hi hc
theorem zae {E : zE} {b : Nat} {c : Nat → Nat → Int32} {w : Nat → Int64} {en : Nat → Nat} {ea : Nat → Nat → Int32} (i : Nat) (hi : zhold i = true) : ∀ H, zH E b c w en ea H → zEv E b (en i) (ea i) H := fun H h => h.2 i hi
theorem zaev {E : zE} {b q : Nat} {x : Nat → Int32} {P : Heap → Prop} (h : ∀ H, P H → zEv E b q x H) : ∀ H, P H → va_at E.1 vwCl (q, .inr (4, [.int (x 0), .int (x 1), .int (x 2), .int (x 3)])) H := fun H hP => (h H hP).2.2
theorem zid {P : Heap → Prop} : ∀ H, P H → P H := fun _ h => h
section Z9
variable {p : Program} {l : Launch} {e : Env} {R : Room} {s : State} {m : MethodId} {args : Array Value} {below : List Frame} {meth : Method} {c9 : Code} {Q : State → Prop} {nL b : Nat} {P : Heap → Prop} {pc : Nat} {L : List (Nat × Value)} {st : List Value} {k n : Nat}
variable {cc : ByteArray} {own : String} {E : zE} {c : Nat → Nat → Int32} {w : Nat → Int64} {en : Nat → Nat} {ea : Nat → Nat → Int32}
theorem zC.at {wd : Cond} (B : zC p s m args meth c9 cc nL own E b) (h : wd ∈ zAll) : wd.before args s = true := B.2.2.2.2.1 wd h
theorem zv_get {q ci i N : Nat} {fs : List Value} {C : String} {T : u_T} {v : Value} (B : zC p s m args meth c9 cc nL own E b) (hat : ∀ H, P H → va_at E.1 vwCl (q, .inr (ci, fs)) H) (hc : vwCl[ci]? = some (C, T, N)) (hin : ∀ w ∈ u_ws C T N, w ∈ zAll) (f : Nat) (hf : f < N) (hlink : Cond.fieldLink own i (T f).1 (T f).2.1 (T f).2.2.1 ∈ zAll) (hv : fs[f]? = some v) (d : decode cc pc = .ok (.getfield i, 3))
    (kk : zV p l e R s m args below meth c9 Q nL b P (pc + 3) L (v :: st) k n) : zV p l e R s m args below meth c9 Q nL b P pc L (.ref q :: st) k n := fun H locs ls hP hS hl => va_get (D := E.1) B.1 B.2.1 B.2.2.2.2.1 hin B.2.2.2.1 B.2.2.2.2.2.1.1 (zone (hat H hP)) 0 rfl hc f hf (B.at hlink) (fun _ h => h) hv d (kk H locs ls hP hS hl)
theorem zrecv {q ci N : Nat} {fs : List Value} {C : String} {T : u_T} (B : zC p s m args meth c9 cc nL own E b) (hat : ∀ H, P H → va_at E.1 vwCl (q, .inr (ci, fs)) H) (hc : vwCl[ci]? = some (C, T, N)) : ∀ H, P H → ∃ cell : Cell, H[q]? = some cell ∧ cell.vm.isStatics = false ∧ s.vm.findClass C = some cell.cls := fun H hP => va_recv (q0 := 0) B.2.2.2.2.2.1.1 (zone (hat H hP)) hc rfl
theorem zv_iald {q N jj : Nat} {j : Int32} {f : Nat → Int32} (B : zC p s m args meth c9 cc nL own E b) (hat : ∀ H, P H → va_at E.1 vwCl (q, .inl (E.2 1, N, .inl f)) H) (hj : j = nI jj) (hlt : jj < N) (hN : N < 2 ^ 31) (d : decode cc pc = .ok (.iaload, 1))
    (kk : zV p l e R s m args below meth c9 Q nL b P (pc + 1) L (.int (f jj) :: st) k n) : zV p l e R s m args below meth c9 Q nL b P pc L (.int j :: .ref q :: st) k n := fun H locs ls hP hS hl => by
  subst hj
  refine va_iald (D := E.1) B.1 B.2.1 B.2.2.2.2.2.1.1 (zone (hat H hP)) 0 1 rfl rfl (vp_in_nI hlt hN) d ?_
  rw [nI_clamp (Nat.lt_trans hlt hN)]
  exact kk H locs ls hP hS hl
theorem zv_cald {q N jj : Nat} {j : Int32} {f : Nat → Int32} (B : zC p s m args meth c9 cc nL own E b) (hat : ∀ H, P H → va_at E.1 vwCl (q, .inl (E.2 0, N, .inl f)) H) (hj : j = nI jj) (hlt : jj < N) (hN : N < 2 ^ 31) (d : decode cc pc = .ok (.caload, 1))
    (kk : zV p l e R s m args below meth c9 Q nL b P (pc + 1) L (.int (f jj) :: st) k n) : zV p l e R s m args below meth c9 Q nL b P pc L (.int j :: .ref q :: st) k n := fun H locs ls hP hS hl => by
  subst hj
  refine va_cald (D := E.1) B.1 B.2.1 B.2.2.2.2.2.1.1 (zone (hat H hP)) 0 0 rfl rfl (vp_in_nI hlt hN) d ?_
  rw [nI_clamp (Nat.lt_trans hlt hN)]
  exact kk H locs ls hP hS hl
theorem zv_zald {q N jj : Nat} {j : Int32} {f : Nat → Int32} (B : zC p s m args meth c9 cc nL own E b) (hat : ∀ H, P H → va_at E.1 vwCl (q, .inl (E.2 2, N, .inl f)) H) (hj : j = nI jj) (hlt : jj < N) (hN : N < 2 ^ 31) (d : decode cc pc = .ok (.baload, 1))
    (kk : zV p l e R s m args below meth c9 Q nL b P (pc + 1) L (.int (f jj) :: st) k n) : zV p l e R s m args below meth c9 Q nL b P pc L (.int j :: .ref q :: st) k n := fun H locs ls hP hS hl => by
  subst hj
  refine va_zald (D := E.1) B.1 B.2.1 B.2.2.2.2.2.1.1 (zone (hat H hP)) 0 2 rfl rfl (vp_in_nI hlt hN) d ?_
  rw [nI_clamp (Nat.lt_trans hlt hN)]
  exact kk H locs ls hP hS hl
theorem zv_lald {q N jj : Nat} {j : Int32} {f : Nat → Int64} (B : zC p s m args meth c9 cc nL own E b) (hat : ∀ H, P H → va_at E.1 vwCl (q, .inl (E.2 5, N, .inr (.inl f))) H) (hj : j = nI jj) (hlt : jj < N) (hN : N < 2 ^ 31) (d : decode cc pc = .ok (.laload, 1))
    (kk : zV p l e R s m args below meth c9 Q nL b P (pc + 1) L (.long (f jj) :: st) k n) : zV p l e R s m args below meth c9 Q nL b P pc L (.int j :: .ref q :: st) k n := fun H locs ls hP hS hl => by
  subst hj
  refine va_lald (D := E.1) B.1 B.2.1 B.2.2.2.2.2.1.1 (zone (hat H hP)) 0 5 rfl rfl (vp_in_nI hlt hN) d ?_
  rw [nI_clamp (Nat.lt_trans hlt hN)]
  exact kk H locs ls hP hS hl
theorem zv_dald {q N jj : Nat} {j : Int32} {f : Nat → UInt64} (B : zC p s m args meth c9 cc nL own E b) (hat : ∀ H, P H → va_at E.1 vwCl (q, .inl (E.2 6, N, .inr (.inr (.inr (.inl f))))) H) (hj : j = nI jj) (hlt : jj < N) (hN : N < 2 ^ 31) (d : decode cc pc = .ok (.daload, 1))
    (kk : zV p l e R s m args below meth c9 Q nL b P (pc + 1) L (.double (f jj) :: st) k n) : zV p l e R s m args below meth c9 Q nL b P pc L (.int j :: .ref q :: st) k n := fun H locs ls hP hS hl => by
  subst hj
  refine va_dald (D := E.1) B.1 B.2.1 B.2.2.2.2.2.1.1 (zone (hat H hP)) 0 6 rfl rfl (vp_in_nI hlt hN) d ?_
  rw [nI_clamp (Nat.lt_trans hlt hN)]
  exact kk H locs ls hP hS hl
theorem zv_vald {q q1 N jj : Nat} {j : Int32} {f : Nat → Option Nat} (B : zC p s m args meth c9 cc nL own E b) (hat : ∀ H, P H → va_at E.1 vwCl (q, .inl (E.2 3, N, .inr (.inr (.inr (.inr f))))) H) (hj : j = nI jj) (hlt : jj < N) (hN : N < 2 ^ 31) (hf : f jj = some q1) (d : decode cc pc = .ok (.aaload, 1))
    (kk : zV p l e R s m args below meth c9 Q nL b P (pc + 1) L (.ref q1 :: st) k n) : zV p l e R s m args below meth c9 Q nL b P pc L (.int j :: .ref q :: st) k n := fun H locs ls hP hS hl => by
  subst hj
  have hin : vp_in (nI jj) N := vp_in_nI hlt hN
  have hjn : (nI jj).toNatClampNeg = jj := nI_clamp (Nat.lt_trans hlt hN)
  refine W.aald (v := .ref q1) (ty := .object "ToneGraph$Voice") B.1 B.2.1 (hat H hP) ((B.2.2.2.2.2.1.1.2 3 _ rfl).1 N (fun j => va_rf (f j))) rfl (fun q => by cases q) (by show ¬ (nI jj < 0 ∨ (arrV _ _ _).slots.size ≤ _); rw [arrV_size]; exact hin) (by show (arrV _ _ _).slots[_]? = _; rw [hjn, arrV_read _ _ hlt, hf]; rfl) rfl rfl d ?_
  exact kk H locs ls hP hS hl
theorem zv_rald {q q1 N jj : Nat} {j : Int32} {f : Nat → Option Nat} (B : zC p s m args meth c9 cc nL own E b) (hat : ∀ H, P H → va_at E.1 vwCl (q, .inl (E.2 4, N, .inr (.inr (.inr (.inr f))))) H) (hj : j = nI jj) (hlt : jj < N) (hN : N < 2 ^ 31) (hf : f jj = some q1) (d : decode cc pc = .ok (.aaload, 1))
    (kk : zV p l e R s m args below meth c9 Q nL b P (pc + 1) L (.ref q1 :: st) k n) : zV p l e R s m args below meth c9 Q nL b P pc L (.int j :: .ref q :: st) k n := fun H locs ls hP hS hl => by
  subst hj
  have hin : vp_in (nI jj) N := vp_in_nI hlt hN
  have hjn : (nI jj).toNatClampNeg = jj := nI_clamp (Nat.lt_trans hlt hN)
  refine W.aald (v := .ref q1) (ty := .array .int) B.1 B.2.1 (hat H hP) ((B.2.2.2.2.2.1.1.2 4 _ rfl).1 N (fun j => va_rf (f j))) rfl (fun q => by cases q) (by show ¬ (nI jj < 0 ∨ (arrV _ _ _).slots.size ≤ _); rw [arrV_size]; exact hin) (by show (arrV _ _ _).slots[_]? = _; rw [hjn, arrV_read _ _ hlt, hf]; rfl) rfl rfl d ?_
  exact kk H locs ls hP hS hl
theorem zs_iast {i N jj : Nat} {j x : Int32} (B : zC p s m args meth c9 cc nL own E b) (hz : ∀ H, P H → zH E b c w en ea H) (hi : i < 126) (he : zenv i = false) (hc : ∀ x w e, zcell E b i x w e = some (.inl (E.2 1, N, .inl x))) (hj : j = nI jj) (hlt : jj < N) (hN : N < 2 ^ 31) (d : decode cc pc = .ok (.iastore, 1))
    (kk : zV p l e R s m args below meth c9 Q nL b (zH E b (zup c i jj x) w en ea) (pc + 1) L st k n) : zV p l e R s m args below meth c9 Q nL b P pc L (.int x :: .int j :: .ref (b + i) :: st) k n := fun H locs ls hP hS hl =>
  zr_iast B hj hlt hN d hS (Nat.le_add_right b i) ((hz H hP).1 i _ hi (hc _ _ _)) (fun H1 locs1 h1 h2 h3 => kk H1 locs1 ls ((hz H hP).setc hi he (hc _ _ _) h1 h2) h3 hl)
theorem zs_cast {i N jj : Nat} {j x : Int32} (B : zC p s m args meth c9 cc nL own E b) (hz : ∀ H, P H → zH E b c w en ea H) (hi : i < 126) (he : zenv i = false) (hc : ∀ x w e, zcell E b i x w e = some (.inl (E.2 0, N, .inl x))) (hj : j = nI jj) (hlt : jj < N) (hN : N < 2 ^ 31) (hnar : narrow .char (.int x) = .int x) (d : decode cc pc = .ok (.castore, 1))
    (kk : zV p l e R s m args below meth c9 Q nL b (zH E b (zup c i jj x) w en ea) (pc + 1) L st k n) : zV p l e R s m args below meth c9 Q nL b P pc L (.int x :: .int j :: .ref (b + i) :: st) k n := fun H locs ls hP hS hl =>
  zr_cast B hj hlt hN hnar d hS (Nat.le_add_right b i) ((hz H hP).1 i _ hi (hc _ _ _)) (fun H1 locs1 h1 h2 h3 => kk H1 locs1 ls ((hz H hP).setc hi he (hc _ _ _) h1 h2) h3 hl)
theorem zs_zast {i N jj : Nat} {j x : Int32} (B : zC p s m args meth c9 cc nL own E b) (hz : ∀ H, P H → zH E b c w en ea H) (hi : i < 126) (he : zenv i = false) (hc : ∀ x w e, zcell E b i x w e = some (.inl (E.2 2, N, .inl x))) (hj : j = nI jj) (hlt : jj < N) (hN : N < 2 ^ 31) (hnar : narrow .boolean (.int x) = .int x) (d : decode cc pc = .ok (.bastore, 1))
    (kk : zV p l e R s m args below meth c9 Q nL b (zH E b (zup c i jj x) w en ea) (pc + 1) L st k n) : zV p l e R s m args below meth c9 Q nL b P pc L (.int x :: .int j :: .ref (b + i) :: st) k n := fun H locs ls hP hS hl =>
  zr_zast B hj hlt hN hnar d hS (Nat.le_add_right b i) ((hz H hP).1 i _ hi (hc _ _ _)) (fun H1 locs1 h1 h2 h3 => kk H1 locs1 ls ((hz H hP).setc hi he (hc _ _ _) h1 h2) h3 hl)
theorem zs_put {i ci f ix N : Nat} {v : Int32} {F : (Nat → Int32) → List Value} {C : String} {T : u_T} {ty : FieldType} (B : zC p s m args meth c9 cc nL own E b) (hz : ∀ H, P H → zH E b c w en ea H) (hi : i < 126) (he : zenv i = false) (hc : ∀ x, zcell E b i x (w i) (en i) = some (.inr (ci, F x))) (hcl : vwCl[ci]? = some (C, T, N)) (hin : ∀ w ∈ u_ws C T N, w ∈ zAll) (ty0 : Nat → FieldType) (hty : ∀ j, j < N → parseFieldDescriptor (T j).2.2.1 = some (ty0 j)) (hnm : ∀ i, i < N → ∀ j, j < N → i ≠ j → (T i).2.1 ≠ (T j).2.1) (hf : f < N) (hlink : Cond.fieldLink own ix (T f).1 (T f).2.1 (T f).2.2.1 ∈ zAll) (hfin : (T f).2.2.2 = false) (hd : parseFieldDescriptor (T f).2.2.1 = some ty) (hn9 : narrow ty (.int v) = .int v) (hfit : fits ty (.int v) = true) (hl9 : f < (F (c i)).length) (hF : (F (c i)).set f (.int v) = F (upd (c i) f v)) (d : decode cc pc = .ok (.putfield ix, 3))
    (kk : zV p l e R s m args below meth c9 Q nL b (zH E b (zup c i f v) w en ea) (pc + 3) L st k n) : zV p l e R s m args below meth c9 Q nL b P pc L (.int v :: .ref (b + i) :: st) k n := fun H locs ls hP hS hl =>
  zr_put B hin ty0 hty hnm hcl f hf (B.at hlink) hfin hd hn9 hfit hl9 d hS (Nat.le_add_right b i) ((hz H hP).1 i _ hi (hc _)) (fun H1 locs1 h1 h2 h3 => kk H1 locs1 ls ((hz H hP).setc hi he (hc _) (by rw [hF] at h1; exact h1) h2) h3 hl)
theorem zs_putl {i ci f ix N : Nat} {v : Int64} {F : Int64 → List Value} {C : String} {T : u_T} (B : zC p s m args meth c9 cc nL own E b) (hz : ∀ H, P H → zH E b c w en ea H) (hi : i < 126) (he : zenv i = false) (hc : ∀ w1, zcell E b i (c i) w1 (en i) = some (.inr (ci, F w1))) (hcl : vwCl[ci]? = some (C, T, N)) (hin : ∀ w ∈ u_ws C T N, w ∈ zAll) (ty0 : Nat → FieldType) (hty : ∀ j, j < N → parseFieldDescriptor (T j).2.2.1 = some (ty0 j)) (hnm : ∀ i, i < N → ∀ j, j < N → i ≠ j → (T i).2.1 ≠ (T j).2.1) (hf : f < N) (hlink : Cond.fieldLink own ix (T f).1 (T f).2.1 (T f).2.2.1 ∈ zAll) (hfin : (T f).2.2.2 = false) (hd : parseFieldDescriptor (T f).2.2.1 = some .long) (hl9 : f < (F (w i)).length) (hF : (F (w i)).set f (.long v) = F v) (d : decode cc pc = .ok (.putfield ix, 3))
    (kk : zV p l e R s m args below meth c9 Q nL b (zH E b c (va_up w i v) en ea) (pc + 3) L st k n) : zV p l e R s m args below meth c9 Q nL b P pc L (.long v :: .ref (b + i) :: st) k n := fun H locs ls hP hS hl =>
  zr_put B hin ty0 hty hnm hcl f hf (B.at hlink) hfin hd rfl rfl hl9 d hS (Nat.le_add_right b i) ((hz H hP).1 i _ hi (hc _)) (fun H1 locs1 h1 h2 h3 => kk H1 locs1 ls (by
    have h9 := (hz H hP).set (x := c i) hi he (hc v) (by rw [hF] at h1; exact h1) h2
    have e9 : va_up c i (c i) = c := by
      funext j
      by_cases h : j = i
      · subst h; simp [va_up]
      · simp [va_up, h]
    rwa [e9] at h9) h3 hl)
theorem zs_pute {i ci f ix N q : Nat} {x : Nat → Int32} {F : Nat → List Value} {C : String} {T : u_T} (B : zC p s m args meth c9 cc nL own E b) (hz : ∀ H, P H → zH E b c w en ea H) (hv : ∀ H, P H → zEv E b q x H) (hi : i < 126) (he : zenv i = false) (hc : ∀ e1, zcell E b i (c i) (w i) e1 = some (.inr (ci, F e1))) (hcl : vwCl[ci]? = some (C, T, N)) (hin : ∀ w ∈ u_ws C T N, w ∈ zAll) (ty0 : Nat → FieldType) (hty : ∀ j, j < N → parseFieldDescriptor (T j).2.2.1 = some (ty0 j)) (hnm : ∀ i, i < N → ∀ j, j < N → i ≠ j → (T i).2.1 ≠ (T j).2.1) (hf : f < N) (hlink : Cond.fieldLink own ix (T f).1 (T f).2.1 (T f).2.2.1 ∈ zAll) (hfin : (T f).2.2.2 = false) {ty : FieldType} (hd : parseFieldDescriptor (T f).2.2.1 = some ty) (hn9 : narrow ty (.ref q) = .ref q) (hfit : fits ty (.ref q) = true) (hl9 : f < (F (en i)).length) (hF : (F (en i)).set f (.ref q) = F q) (d : decode cc pc = .ok (.putfield ix, 3))
    (kk : zV p l e R s m args below meth c9 Q nL b (zH E b c w (va_up en i q) (va_up ea i x)) (pc + 3) L st k n) : zV p l e R s m args below meth c9 Q nL b P pc L (.ref q :: .ref (b + i) :: st) k n := fun H locs ls hP hS hl =>
  zr_put B hin ty0 hty hnm hcl f hf (B.at hlink) hfin hd hn9 hfit hl9 d hS (Nat.le_add_right b i) ((hz H hP).1 i _ hi (hc _)) (fun H1 locs1 h1 h2 h3 => kk H1 locs1 ls ((hz H hP).sete hi he (hv H hP) (hc _) (by rw [hF] at h1; exact h1) h2) h3 hl)
/-- the table of the steps -/
theorem zv_gets {i : Nat} (B : zC p s m args meth c9 cc nL own E b) (hlink : Cond.fieldLink own i "ToneGraph" "LOWEST_STEPS" "[I" ∈ zAll) (d : decode cc pc = .ok (.getstatic i, 3)) (kk : ∀ t : Nat, va_T .int t 12 (fun j => .int (zstp j)) (zA b) s s.heap → zV p l e R s m args below meth c9 Q nL b P (pc + 3) L (.ref t :: st) k n) : zV p l e R s m args below meth c9 Q nL b P pc L st k n := fun H locs ls hP hS hl => by
  obtain ⟨t, h1, h2⟩ := B.2.2.2.2.2.1.2.1.1
  exact va_gets B.1 B.2.1 h1 hS B.2.2.2.1 (B.at hlink) (fun _ h => h) d (kk t h2 H locs ls hP hS hl)
theorem zv_ti {t jj : Nat} {j : Int32} (B : zC p s m args meth c9 cc nL own E b) (hT : va_T .int t 12 (fun j => .int (zstp j)) (zA b) s s.heap) (hj : j = nI jj) (hlt : jj < 12) (d : decode cc pc = .ok (.iaload, 1)) (kk : zV p l e R s m args below meth c9 Q nL b P (pc + 1) L (.int (zstp jj) :: st) k n) : zV p l e R s m args below meth c9 Q nL b P pc L (.int j :: .ref t :: st) k n := fun H locs ls hP hS hl => by
  subst hj
  exact va_ti B.1 B.2.1 hT hS (vp_in_nI hlt (by omega)) (by rw [nI_clamp (by omega)]) d (kk H locs ls hP hS hl)
/-- System.arraycopy between two rows of ints -/
theorem zr_copy {i a0 a n0 n1 sp dp nn : Nat} {f g : Nat → Int32} {H : Heap} {locs : List Loc} {ls : Array Slot} {rest : List Value} (B : zC p s m args meth c9 cc nL own E b) (hw1 : Cond.methodLink own i arraycopyName ∈ zAll) (hw2 : Cond.native arraycopyName ∈ zAll) (hw3 : Cond.static arraycopyName ∈ zAll) (hw4 : Cond.initialized "java/lang/System" ∈ zAll) (hsz : ls.size = nL)
    (hat0 : va_at E.1 vwCl (a0, .inl (E.2 1, n0, .inl f)) H) (hat1 : va_at E.1 vwCl (a, .inl (E.2 1, n1, .inl g)) H) (ha : b ≤ a) (h4 : sp + nn ≤ n0) (h5 : dp + nn ≤ n1) (hb0 : n0 < 2 ^ 31) (hb1 : n1 < 2 ^ 31) (hf : 1 ≤ R.frames) (hlo : (rest.map fun v => v.category).sum + (nativeFrameWords "java/lang/System" "arraycopy" 5 + 11) ≤ R.locals) (d : decode cc pc = .ok (.invokestatic i, 3)) (hS : va_S (zA b) s.heap H locs)
    (kk : ∀ (H1 : Heap) (locs1 : List Loc), va_at E.1 vwCl (a, .inl (E.2 1, n1, .inl (va_cpy f g sp dp nn))) H1 → (∀ q : Nat, q ≠ a → H1[q]? = H[q]?) → va_S (zA b) s.heap H1 locs1 → W p l e R s m args below meth c9 H1 locs1 k n Q (F0 m (pc + 3) ls rest)) : W p l e R s m args below meth c9 H locs k n Q (F0 m pc ls (.int (nI nn) :: .int (nI dp) :: .ref a :: .int (nI sp) :: .ref a0 :: rest)) := by
  intro T hT X
  have c1 : (nI nn).toNatClampNeg = nn := nI_clamp (by omega)
  have c2 : (nI dp).toNatClampNeg = dp := nI_clamp (by omega)
  have c3 : (nI sp).toNatClampNeg = sp := nI_clamp (by omega)
  have t1 : (nI nn).toInt = (nn : Int) := nI_toInt (by omega)
  have t2 : (nI dp).toInt = (dp : Int) := nI_toInt (by omega)
  have t3 : (nI sp).toInt = (sp : Int) := nI_toInt (by omega)
  have hc0 : H[a0]? = some (vp_cell (E.2 1) (n0, .inl f)) := hat0
  have hc1 : H[a]? = some (vp_cell (E.2 1) (n1, .inl g)) := hat1
  have hK := B.2.2.2.2.2.1.1
  obtain ⟨-, k0, hk0, cm0, hkk0⟩ := (hK.2 1 _ rfl).1 n0 (fun j => .int (f j))
  obtain ⟨-, k1, hk1, cm1, hkk1⟩ := (hK.2 1 _ rfl).1 n1 (fun j => .int (g j))
  obtain ⟨vm', X', step⟩ := X.arraycopy B.1 B.2.2.2.1 (B.at hw1) (B.at hw2) (B.at hw3) (B.at hw4) (src := a0) (dst := a) (cs := vp_cell (E.2 1) (n0, .inl f)) (cd := vp_cell (E.2 1) (n1, .inl g)) (srcPos := nI sp) (destPos := nI dp) (n := nI nn) (by rw [hT]; exact hc0) (by rw [hT]; exact hc1)
    (fun _ h => by cases h) (fun _ h => by cases h) (fun h => by cases h) (fun h => by cases h) hk0 hk1 hkk0 hkk1 (by simp [refKind]) (nI_pos (by omega)) (nI_pos (by omega)) (nI_pos (by omega))
    (by rw [t3, t1]; show ¬ _ > ((arrV (E.2 1) n0 (fun j => .int (f j))).slots.size : Int); rw [arrV_size]; omega)
    (by rw [t2, t1]; show ¬ _ > ((arrV (E.2 1) n1 (fun j => .int (g j))).slots.size : Int); rw [arrV_size]; omega)
    (fun vm₁ _ z hz => by
      rw [c1] at hz
      have e9 : (vp_cell (E.2 1) (n0, .inl f)).slots.getD ((nI sp).toNatClampNeg + z) .null = .int (f (sp + z)) := by
        show (arrV (E.2 1) n0 (fun j => .int (f j))).slots.getD _ _ = _
        rw [c3, Array.getD_eq_getD_getElem?, arrV_read _ _ (by omega)]
        rfl
      refine ⟨?_, ?_⟩
      · rw [e9]; rfl
      · rw [e9]; exact trivial)
    (g := F0 m pc ls (.int (nI nn) :: .int (nI dp) :: .ref a :: .int (nI sp) :: .ref a0 :: rest)) rfl (by rw [B.2.2.1]; exact hsz) (rest := rest) rfl (by rw [B.2.1]; exact d) hf (by show 2 * 0 + _ + _ ≤ _; omega)
  have e1 : copied (vp_cell (E.2 1) (n0, .inl f)) (vp_cell (E.2 1) (n1, .inl g)) (nI sp) (nI dp) (nI nn) = vp_cell (E.2 1) (n1, .inl (va_cpy f g sp dp nn)) := by
    have h9 := va_copied (fun z => Value.int z) (E.2 1) (E.2 1) (n1 := n1) (dp := dp) f g h4
    unfold copied
    rw [c1, c2, c3]
    exact h9
  rw [e1] at X' step
  have hl : a < H.size := (Array.getElem?_eq_some_iff.mp hc1).1
  have hheap : ((T.setVm vm').setCell a (vp_cell (E.2 1) (n1, .inl (va_cpy f g sp dp nn)))).heap = H.setIfInBounds a (vp_cell (E.2 1) (n1, .inl (va_cpy f g sp dp nn))) := by rw [← hT]; rfl
  have oq : ∀ q : Nat, q ≠ a → (H.setIfInBounds a (vp_cell (E.2 1) (n1, .inl (va_cpy f g sp dp nn))))[q]? = H[q]? := fun q hq => by simp [Array.getElem?_setIfInBounds, Ne.symm hq]
  obtain ⟨t, a1, b1⟩ := kk _ _ (show (H.setIfInBounds a _)[a]? = some _ by simp [Array.getElem?_setIfInBounds, hl]) oq ⟨by simp; exact hS.1, fun q g1 g2 => by
      rw [oq q (fun e => g2 (by rw [e]; exact ha))]
      exact hS.2.1 q g1 g2, fun q hq => by
      rcases List.mem_append.mp hq with h | h
      · exact hS.2.2 q h
      · obtain ⟨z, -, hz⟩ := List.mem_map.mp h
        rw [← hz]
        exact ha⟩ _ hheap X'
  exact ⟨t, step t a1, b1⟩
theorem zs_copy {i i0 i1 n0 n1 sp dp nn : Nat} (B : zC p s m args meth c9 cc nL own E b) (hw1 : Cond.methodLink own i arraycopyName ∈ zAll) (hw2 : Cond.native arraycopyName ∈ zAll) (hw3 : Cond.static arraycopyName ∈ zAll) (hw4 : Cond.initialized "java/lang/System" ∈ zAll) (hz : ∀ H, P H → zH E b c w en ea H) (hi0 : i0 < 126) (hi1 : i1 < 126) (he1 : zenv i1 = false) (hc0 : ∀ x w e, zcell E b i0 x w e = some (.inl (E.2 1, n0, .inl x))) (hc1 : ∀ x w e, zcell E b i1 x w e = some (.inl (E.2 1, n1, .inl x))) (h4 : sp + nn ≤ n0) (h5 : dp + nn ≤ n1) (hb0 : n0 < 2 ^ 31) (hb1 : n1 < 2 ^ 31) (hf : 1 ≤ R.frames) (hlo : (st.map fun v => v.category).sum + (nativeFrameWords "java/lang/System" "arraycopy" 5 + 11) ≤ R.locals) (d : decode cc pc = .ok (.invokestatic i, 3))
    (kk : zV p l e R s m args below meth c9 Q nL b (zH E b (va_up c i1 (va_cpy (c i0) (c i1) sp dp nn)) w en ea) (pc + 3) L st k n) : zV p l e R s m args below meth c9 Q nL b P pc L (.int (nI nn) :: .int (nI dp) :: .ref (b + i1) :: .int (nI sp) :: .ref (b + i0) :: st) k n := fun H locs ls hP hS hl =>
  zr_copy B hw1 hw2 hw3 hw4 hl.1 ((hz H hP).1 i0 _ hi0 (hc0 _ _ _)) ((hz H hP).1 i1 _ hi1 (hc1 _ _ _)) (Nat.le_add_right b i1) h4 h5 hb0 hb1 hf hlo d hS (fun H1 locs1 h1 h2 h3 => kk H1 locs1 ls ((hz H hP).setc hi1 he1 (hc1 _ _ _) h1 h2) h3 hl)
end Z9
theorem cl0 : vwCl[2]? = some (RX0, TX0, 14) := rfl
theorem cl1 : vwCl[3]? = some (RX1, TX1, 3) := rfl
theorem cl2 : vwCl[4]? = some (RX2, TX2, 4) := rfl
theorem cl3 : vwCl[5]? = some (RX3, TX3, 5) := rfl
theorem cl4 : vwCl[6]? = some (RX4, TX4, 7) := rfl
theorem cl5 : vwCl[7]? = some (RX5, TX5, 13) := rfl
theorem cl6 : vwCl[8]? = some (RX6, TX6, 8) := rfl
theorem cl7 : vwCl[9]? = some (RX7, TX7, 26) := rfl
theorem z0 {E : zE} {b : Nat} (x : Nat → Int32) (w : Int64) (e : Nat) : zcell E b 0 x w e = some (.inr (8, [.ref (b + 1), .ref (b + 34), .ref (b + 70), .ref (b + 106), .ref (b + 108), .ref (b + 109), .int (x 6), .ref e])) := rfl
theorem z1 {E : zE} {b : Nat} (x : Nat → Int32) (w : Int64) (e : Nat) : zcell E b 1 x w e = some (.inr (2, [.int (x 0), .int (x 1), .ref (b + 2), .ref (b + 3), .ref (b + 4), .ref (b + 5), .ref (b + 6), .ref (b + 7), .ref (b + 8), .ref (b + 9), .ref (b + 10), .ref (b + 11), .ref (b + 22), .ref (b + 33)])) := rfl
theorem z2 {E : zE} {b : Nat} (x : Nat → Int32) (w : Int64) (e : Nat) : zcell E b 2 x w e = some (.inl (E.2 0, 10, .inl x)) := rfl
theorem z3 {E : zE} {b : Nat} (x : Nat → Int32) (w : Int64) (e : Nat) : zcell E b 3 x w e = some (.inl (E.2 1, 10, .inl x)) := rfl
theorem z4 {E : zE} {b : Nat} (x : Nat → Int32) (w : Int64) (e : Nat) : zcell E b 4 x w e = some (.inl (E.2 1, 10, .inl x)) := rfl
theorem z5 {E : zE} {b : Nat} (x : Nat → Int32) (w : Int64) (e : Nat) : zcell E b 5 x w e = some (.inl (E.2 1, 10, .inl x)) := rfl
theorem z6 {E : zE} {b : Nat} (x : Nat → Int32) (w : Int64) (e : Nat) : zcell E b 6 x w e = some (.inl (E.2 1, 10, .inl x)) := rfl
theorem z7 {E : zE} {b : Nat} (x : Nat → Int32) (w : Int64) (e : Nat) : zcell E b 7 x w e = some (.inl (E.2 1, 10, .inl x)) := rfl
theorem z8 {E : zE} {b : Nat} (x : Nat → Int32) (w : Int64) (e : Nat) : zcell E b 8 x w e = some (.inl (E.2 1, 10, .inl x)) := rfl
theorem z9 {E : zE} {b : Nat} (x : Nat → Int32) (w : Int64) (e : Nat) : zcell E b 9 x w e = some (.inl (E.2 1, 10, .inl x)) := rfl
theorem z10 {E : zE} {b : Nat} (x : Nat → Int32) (w : Int64) (e : Nat) : zcell E b 10 x w e = some (.inl (E.2 1, 10, .inl x)) := rfl
theorem z11 {E : zE} {b : Nat} (x : Nat → Int32) (w : Int64) (e : Nat) : zcell E b 11 x w e = some (.inl (E.2 4, 10, .inr (.inr (.inr (.inr (fun j => if j < 10 then some (b + (12 + j)) else none)))))) := rfl
theorem z22 {E : zE} {b : Nat} (x : Nat → Int32) (w : Int64) (e : Nat) : zcell E b 22 x w e = some (.inl (E.2 4, 10, .inr (.inr (.inr (.inr (fun j => if j < 10 then some (b + (23 + j)) else none)))))) := rfl
theorem z33 {E : zE} {b : Nat} (x : Nat → Int32) (w : Int64) (e : Nat) : zcell E b 33 x w e = some (.inl (E.2 1, 10, .inl x)) := rfl
theorem z106 {E : zE} {b : Nat} (x : Nat → Int32) (w : Int64) (e : Nat) : zcell E b 106 x w e = some (.inr (5, [.ref (b + 107), .int (x 1), .int (x 2), .long w, .int (x 4)])) := rfl
theorem z107 {E : zE} {b : Nat} (x : Nat → Int32) (w : Int64) (e : Nat) : zcell E b 107 x w e = some (.inl (E.2 1, 64, .inl x)) := rfl
theorem z108 {E : zE} {b : Nat} (x : Nat → Int32) (w : Int64) (e : Nat) : zcell E b 108 x w e = some (.inl (E.2 1, 64, .inl x)) := rfl
theorem z109 {E : zE} {b : Nat} (x : Nat → Int32) (w : Int64) (e : Nat) : zcell E b 109 x w e = some (.inl (E.2 1, 64, .inl x)) := rfl
theorem z111 {E : zE} {b : Nat} (x : Nat → Int32) (w : Int64) (e : Nat) : zcell E b 111 x w e = some (.inr (9, [.ref (b + 112), .ref (b + 113), .ref (b + 114), .ref (b + 115), .ref (b + 116), .ref (b + 117), .ref (b + 118), .ref (b + 119), .ref (b + 120), .ref (b + 121), .ref (b + 122), .ref (b + 123), .int (x 12), .int (x 13), .int (x 14), .int (x 15), .int (x 16), .int (x 17), .int (x 18), .int (x 19), .int (x 20), .int (x 21), .int (x 22), .int (x 23), .int (x 24), .long w])) := rfl
theorem z112 {E : zE} {b : Nat} (x : Nat → Int32) (w : Int64) (e : Nat) : zcell E b 112 x w e = some (.inl (E.2 1, 704, .inl x)) := rfl
theorem z113 {E : zE} {b : Nat} (x : Nat → Int32) (w : Int64) (e : Nat) : zcell E b 113 x w e = some (.inl (E.2 1, 704, .inl x)) := rfl
theorem z114 {E : zE} {b : Nat} (x : Nat → Int32) (w : Int64) (e : Nat) : zcell E b 114 x w e = some (.inl (E.2 1, 10, .inl x)) := rfl
theorem z115 {E : zE} {b : Nat} (x : Nat → Int32) (w : Int64) (e : Nat) : zcell E b 115 x w e = some (.inl (E.2 1, 10, .inl x)) := rfl
theorem z116 {E : zE} {b : Nat} (x : Nat → Int32) (w : Int64) (e : Nat) : zcell E b 116 x w e = some (.inl (E.2 1, 10, .inl x)) := rfl
theorem z117 {E : zE} {b : Nat} (x : Nat → Int32) (w : Int64) (e : Nat) : zcell E b 117 x w e = some (.inl (E.2 1, 10, .inl x)) := rfl
theorem z118 {E : zE} {b : Nat} (x : Nat → Int32) (w : Int64) (e : Nat) : zcell E b 118 x w e = some (.inl (E.2 1, 40, .inl x)) := rfl
theorem z119 {E : zE} {b : Nat} (x : Nat → Int32) (w : Int64) (e : Nat) : zcell E b 119 x w e = some (.inl (E.2 1, 40, .inl x)) := rfl
theorem z120 {E : zE} {b : Nat} (x : Nat → Int32) (w : Int64) (e : Nat) : zcell E b 120 x w e = some (.inl (E.2 1, 10, .inl x)) := rfl
theorem z121 {E : zE} {b : Nat} (x : Nat → Int32) (w : Int64) (e : Nat) : zcell E b 121 x w e = some (.inl (E.2 1, 10, .inl x)) := rfl
theorem z122 {E : zE} {b : Nat} (x : Nat → Int32) (w : Int64) (e : Nat) : zcell E b 122 x w e = some (.inl (E.2 1, 64, .inl x)) := rfl
theorem z123 {E : zE} {b : Nat} (x : Nat → Int32) (w : Int64) (e : Nat) : zcell E b 123 x w e = some (.inl (E.2 2, 10, .inl x)) := rfl
theorem z124 {E : zE} {b : Nat} (x : Nat → Int32) (w : Int64) (e : Nat) : zcell E b 124 x w e = some (.inl (E.2 5, 1, .inr (.inl (fun _ => w)))) := rfl
theorem z125 {E : zE} {b : Nat} (x : Nat → Int32) (w : Int64) (e : Nat) : zcell E b 125 x w e = some (.inl (E.2 6, 1, .inr (.inr (.inr (.inl (fun _ => w.toUInt64)))))) := rfl
theorem zsrc {E : zE} {b : Nat} {j : Nat} (hj : j < 10) (x : Nat → Int32) (w : Int64) (e : Nat) : zcell E b (12 + j) x w e = some (.inl (E.2 1, 4, .inl x)) := by
  rcases (show j = 0 ∨ j = 1 ∨ j = 2 ∨ j = 3 ∨ j = 4 ∨ j = 5 ∨ j = 6 ∨ j = 7 ∨ j = 8 ∨ j = 9 by omega) with rfl | rfl | rfl | rfl | rfl | rfl | rfl | rfl | rfl | rfl <;> rfl
theorem zshr {E : zE} {b : Nat} {j : Nat} (hj : j < 10) (x : Nat → Int32) (w : Int64) (e : Nat) : zcell E b (23 + j) x w e = some (.inl (E.2 1, 4, .inl x)) := by
  rcases (show j = 0 ∨ j = 1 ∨ j = 2 ∨ j = 3 ∨ j = 4 ∨ j = 5 ∨ j = 6 ∨ j = 7 ∨ j = 8 ∨ j = 9 by omega) with rfl | rfl | rfl | rfl | rfl | rfl | rfl | rfl | rfl | rfl <;> rfl
theorem zsrc_e {j : Nat} (hj : j < 10) : zenv (12 + j) = false := by
  rcases (show j = 0 ∨ j = 1 ∨ j = 2 ∨ j = 3 ∨ j = 4 ∨ j = 5 ∨ j = 6 ∨ j = 7 ∨ j = 8 ∨ j = 9 by omega) with rfl | rfl | rfl | rfl | rfl | rfl | rfl | rfl | rfl | rfl <;> rfl
theorem zshr_e {j : Nat} (hj : j < 10) : zenv (23 + j) = false := by
  rcases (show j = 0 ∨ j = 1 ∨ j = 2 ∨ j = 3 ∨ j = 4 ∨ j = 5 ∨ j = 6 ∨ j = 7 ∨ j = 8 ∨ j = 9 by omega) with rfl | rfl | rfl | rfl | rfl | rfl | rfl | rfl | rfl | rfl <;> rfl
/-- where a track lies -/
def zTk (o : Nat) : Prop := o = 34 ∨ o = 70
theorem zt_trk {E : zE} {b : Nat} {o : Nat} (ho : zTk o) (x : Nat → Int32) (w : Int64) (e : Nat) : zcell E b o x w e = some (.inr (6, [.ref (b + 1), .ref (b + (o + 1)), .ref (b + (o + 11)), .ref (b + (o + 22)), .ref (b + (o + 23)), .ref (b + (o + 24)), .ref (b + (o + 35))])) := by rcases ho with rfl | rfl <;> rfl
theorem zt_trk_e {o : Nat} (ho : zTk o) : zenv o = false := by rcases ho with rfl | rfl <;> rfl
theorem zTk.lt {o : Nat} (ho : zTk o) {k : Nat} (hk : k < 56) : o + k < 126 := by rcases ho with rfl | rfl <;> omega
theorem zt_chr {E : zE} {b : Nat} {o : Nat} (ho : zTk o) (x : Nat → Int32) (w : Int64) (e : Nat) : zcell E b (o + 1) x w e = some (.inr (3, [.ref (b + (o + 2)), .int (x 1), .int (x 2)])) := by rcases ho with rfl | rfl <;> rfl
theorem zt_chr_e {o : Nat} (ho : zTk o) : zenv (o + 1) = false := by rcases ho with rfl | rfl <;> rfl
theorem zt_vcs {E : zE} {b : Nat} {o : Nat} (ho : zTk o) (x : Nat → Int32) (w : Int64) (e : Nat) : zcell E b (o + 2) x w e = some (.inl (E.2 3, 4, .inr (.inr (.inr (.inr (fun j => if j < 4 then some (b + (o + 3 + 2 * j)) else none)))))) := by rcases ho with rfl | rfl <;> rfl
theorem zt_vcs_e {o : Nat} (ho : zTk o) : zenv (o + 2) = false := by rcases ho with rfl | rfl <;> rfl
theorem zt_vc {E : zE} {b : Nat} {o j : Nat} (ho : zTk o) (hj : j < 4) (x : Nat → Int32) (w : Int64) (e : Nat) : zcell E b (o + 3 + 2 * j) x w e = some (.inr (7, [.int (x 0), .int (x 1), .int (x 2), .int (x 3), .int (x 4), .ref e, .int (x 6), .int (x 7), .int (x 8), .int (x 9), .int (x 10), .int (x 11), .int (x 12)])) := by
  rcases ho with rfl | rfl <;>
  rcases (show j = 0 ∨ j = 1 ∨ j = 2 ∨ j = 3 by omega) with rfl | rfl | rfl | rfl <;> rfl
theorem zt_vc_e {o j : Nat} (ho : zTk o) (hj : j < 4) : zenv (o + 3 + 2 * j) = false := by
  rcases ho with rfl | rfl <;>
  rcases (show j = 0 ∨ j = 1 ∨ j = 2 ∨ j = 3 by omega) with rfl | rfl | rfl | rfl <;> rfl
theorem zt_vc_h {o j : Nat} (ho : zTk o) (hj : j < 4) : zhold (o + 3 + 2 * j) = true := by
  rcases ho with rfl | rfl <;>
  rcases (show j = 0 ∨ j = 1 ∨ j = 2 ∨ j = 3 by omega) with rfl | rfl | rfl | rfl <;> rfl
theorem zt_blk {E : zE} {b : Nat} {o : Nat} (ho : zTk o) (x : Nat → Int32) (w : Int64) (e : Nat) : zcell E b (o + 11) x w e = some (.inl (E.2 4, 10, .inr (.inr (.inr (.inr (fun j => if j < 10 then some (b + (o + 12 + j)) else none)))))) := by rcases ho with rfl | rfl <;> rfl
theorem zt_blk_e {o : Nat} (ho : zTk o) : zenv (o + 11) = false := by rcases ho with rfl | rfl <;> rfl
theorem zt_br {E : zE} {b : Nat} {o j : Nat} (ho : zTk o) (hj : j < 10) (x : Nat → Int32) (w : Int64) (e : Nat) : zcell E b (o + 12 + j) x w e = some (.inl (E.2 1, 64, .inl x)) := by
  rcases ho with rfl | rfl <;>
  rcases (show j = 0 ∨ j = 1 ∨ j = 2 ∨ j = 3 ∨ j = 4 ∨ j = 5 ∨ j = 6 ∨ j = 7 ∨ j = 8 ∨ j = 9 by omega) with rfl | rfl | rfl | rfl | rfl | rfl | rfl | rfl | rfl | rfl <;> rfl
theorem zt_br_e {o j : Nat} (ho : zTk o) (hj : j < 10) : zenv (o + 12 + j) = false := by
  rcases ho with rfl | rfl <;>
  rcases (show j = 0 ∨ j = 1 ∨ j = 2 ∨ j = 3 ∨ j = 4 ∨ j = 5 ∨ j = 6 ∨ j = 7 ∨ j = 8 ∨ j = 9 by omega) with rfl | rfl | rfl | rfl | rfl | rfl | rfl | rfl | rfl | rfl <;> rfl
theorem zt_lat {E : zE} {b : Nat} {o : Nat} (ho : zTk o) (x : Nat → Int32) (w : Int64) (e : Nat) : zcell E b (o + 22) x w e = some (.inl (E.2 1, 10, .inl x)) := by rcases ho with rfl | rfl <;> rfl
theorem zt_lat_e {o : Nat} (ho : zTk o) : zenv (o + 22) = false := by rcases ho with rfl | rfl <;> rfl
theorem zt_inb {E : zE} {b : Nat} {o : Nat} (ho : zTk o) (x : Nat → Int32) (w : Int64) (e : Nat) : zcell E b (o + 23) x w e = some (.inl (E.2 1, 10, .inl x)) := by rcases ho with rfl | rfl <;> rfl
theorem zt_inb_e {o : Nat} (ho : zTk o) : zenv (o + 23) = false := by rcases ho with rfl | rfl <;> rfl
theorem zt_kps {E : zE} {b : Nat} {o : Nat} (ho : zTk o) (x : Nat → Int32) (w : Int64) (e : Nat) : zcell E b (o + 24) x w e = some (.inl (E.2 4, 10, .inr (.inr (.inr (.inr (fun j => if j < 10 then some (b + (o + 25 + j)) else none)))))) := by rcases ho with rfl | rfl <;> rfl
theorem zt_kps_e {o : Nat} (ho : zTk o) : zenv (o + 24) = false := by rcases ho with rfl | rfl <;> rfl
theorem zt_kp {E : zE} {b : Nat} {o j : Nat} (ho : zTk o) (hj : j < 10) (x : Nat → Int32) (w : Int64) (e : Nat) : zcell E b (o + 25 + j) x w e = some (.inl (E.2 1, 60, .inl x)) := by
  rcases ho with rfl | rfl <;>
  rcases (show j = 0 ∨ j = 1 ∨ j = 2 ∨ j = 3 ∨ j = 4 ∨ j = 5 ∨ j = 6 ∨ j = 7 ∨ j = 8 ∨ j = 9 by omega) with rfl | rfl | rfl | rfl | rfl | rfl | rfl | rfl | rfl | rfl <;> rfl
theorem zt_kp_e {o j : Nat} (ho : zTk o) (hj : j < 10) : zenv (o + 25 + j) = false := by
  rcases ho with rfl | rfl <;>
  rcases (show j = 0 ∨ j = 1 ∨ j = 2 ∨ j = 3 ∨ j = 4 ∨ j = 5 ∨ j = 6 ∨ j = 7 ∨ j = 8 ∨ j = 9 by omega) with rfl | rfl | rfl | rfl | rfl | rfl | rfl | rfl | rfl | rfl <;> rfl
theorem zt_old {E : zE} {b : Nat} {o : Nat} (ho : zTk o) (x : Nat → Int32) (w : Int64) (e : Nat) : zcell E b (o + 35) x w e = some (.inl (E.2 1, 10, .inl x)) := by rcases ho with rfl | rfl <;> rfl
theorem zt_old_e {o : Nat} (ho : zTk o) : zenv (o + 35) = false := by rcases ho with rfl | rfl <;> rfl
