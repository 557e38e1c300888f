section ZP
variable {p : Program} {l : Launch} {e : Env} {R : Room} {s : State} {m : MethodId} {args : Array Value} {below : List Frame} {meth : Method} {c9 : Code} {Q : State → Prop} {nL b : Nat} {P : Heap → Prop} {pc : Nat} {L : List (Nat × Value)} {st : List Value} {k n : Nat}
variable {cc : ByteArray} {own : String} {E : zE} {K i ci N ix : Nat} {F : Nat → va_E} {fs : List Value} {C : String} {T : u_T}
theorem zp_newq {t0 : Nat} {cA : ClassId} {x : Int32} (B : zC p s m args meth c9 cc nL own E b) (hlink : Cond.classLink own ix C ∈ zAll) (hover : va_AO C s) (ht : (zTys E)[t0]? = some (cA, .object C)) (hn0 : ¬ x < 0) (hN : x.toNatClampNeg = N) (hb9 : N * 4 ≤ 536870912) {K1 : Nat} (hK : K + 1 = K1) (hk : k + 1 ≤ R.cells) (hn : n + N ≤ R.slots) (d : decode cc pc = .ok (.anewarray ix, 3))
    (kk : zV p l e R s m args below meth c9 Q nL b (zPic E b K1 (va_up F K (.inl (cA, N, .inr (.inr (.inr (.inr (fun _ => none)))))))) (pc + 3) L (.ref (b + K) :: st) (k + 1) (n + N)) : zV p l e R s m args below meth c9 Q nL b (zPic E b K F) pc L (.int x :: st) k n := fun H locs ls hP hS hl => by
  subst hK
  subst hN
  refine W.anew B.1 B.2.1 B.2.2.2.1 (B.at hlink) (va_AO.use hover) (g := F0 m pc ls (.int x :: st)) rfl d rfl hn0 hb9 hk hn fun cA1 kA comp f1 f2 f3 f4 => ?_
  obtain ⟨kA2, comp2, g1, g2, g3, g4⟩ := (B.2.2.2.2.2.1.1.2 t0 _ ht).2
  have ec : cA1 = cA := Option.some.inj (f1.symm.trans g4)
  subst ec
  generalize hH1 : H.push ({ cls := cA1, slots := Array.replicate x.toNatClampNeg .null, vm := .none } : Cell) = H1
  have z1 : H1.size = H.size + 1 := by rw [← hH1, Array.size_push]
  have e1 : H1[H.size]? = some (arrV cA1 x.toNatClampNeg (fun _ => .null)) := by rw [← hH1, Array.getElem?_push_size, ← arrV_new]
  have o1 : ∀ q : Nat, q < H.size → H1[q]? = H[q]? := fun q hq => by rw [← hH1, Array.getElem?_push, if_neg (Nat.ne_of_lt hq)]
  have h7 : va_at E.1 vwCl (H.size, .inl (cA1, x.toNatClampNeg, .inr (.inr (.inr (.inr (fun _ => none)))))) H1 := by
    show H1[H.size]? = some (vp_cell _ _)
    rw [vp_cell_q]
    exact e1
  have h9 := kk H1 locs ls (hP.push h7 z1 o1) ⟨Nat.le_trans hS.1 (by omega), fun x h1 h2 => (o1 x (Nat.lt_of_lt_of_le h1 hS.1)).trans (hS.2.1 x h1 h2), hS.2.2⟩ hl
  rwa [← hP.1] at h9
/-- rows and what holds them, made at once -/
def zmf (F : Nat → va_E) (K N : Nat) (e0 er : va_E) : Nat → va_E := fun i => if i = K then e0 else if K < i ∧ i ≤ K + N then er else F i
theorem zp_mna {N M : Nat} {x y : Int32} (B : zC p s m args meth c9 cc nL own E b) (hlink : Cond.classLink own ix ("[" ++ (FieldType.array .int).toString) ∈ zAll) (harr : Cond.arrayClass .int ∈ zAll) (hn0 : ¬ x < 0) (hm0 : ¬ y < 0) (hN : x.toNatClampNeg = N) (hM : y.toNatClampNeg = M) (hb1 : N * 4 ≤ 536870912) (hb2 : M * 4 ≤ 536870912) {K1 : Nat} (hK : K + 1 + N = K1) (hk : k + (1 + N) ≤ R.cells) (hn : n + (N + N * M) ≤ R.slots) (d : decode cc pc = .ok (.multianewarray ix 2, 4))
    (kk : zV p l e R s m args below meth c9 Q nL b (zPic E b K1 (zmf F K N (.inl (E.2 4, N, .inr (.inr (.inr (.inr (fun j => if j < N then some (b + (K + 1 + j)) else none)))))) (.inl (E.2 1, M, .inl (fun _ => 0))))) (pc + 4) L (.ref (b + K) :: st) (k + (1 + N)) (n + (N + N * M))) : zV p l e R s m args below meth c9 Q nL b (zPic E b K F) pc L (.int y :: .int x :: st) k n := fun H locs ls hP hS hl => by
  subst hK
  subst hN
  subst hM
  intro T hT Xs
  obtain ⟨vm₁, cA, comp, -, fA, fC, hO, -, X', step⟩ := Xs.multianewarray2F B.1 B.2.2.2.1 (B.at hlink) (va_AOA.use B.2.2.2.2.2.1.2.2.2.2.1.2) (B.at harr) (g := F0 m pc ls (.int y :: .int x :: st)) rfl (by rw [B.2.1]; exact d) rfl hn0 hm0 hb1 hb2 (by omega) rfl rfl hk hn
  have k1 : s.vm.findClass ("[" ++ (FieldType.int).toString) = some (E.2 1) := (B.2.2.2.2.2.1.1.2 1 _ rfl).2
  have k4 : s.vm.findClass ("[" ++ (FieldType.array .int).toString) = some (E.2 4) := (B.2.2.2.2.2.1.1.2 4 _ rfl).2
  have ec : comp = E.2 1 := Option.some.inj (fC.symm.trans k1)
  have ea : cA = E.2 4 := Option.some.inj (fA.symm.trans k4)
  subst ec
  subst ea
  generalize hF : Jvm.Free.Multi.fill (T.setVm vm₁) (E.2 4) (E.2 1) x.toNatClampNeg y.toNatClampNeg (defaultValue .int) x.toNatClampNeg = G at X' step
  have hTh : (T.setVm vm₁).heap = H := hT
  obtain ⟨f1, f2, -, -⟩ := Jvm.Free.Multi.fill_facts (T.setVm vm₁) (E.2 4) (E.2 1) x.toNatClampNeg y.toNatClampNeg (defaultValue .int) x.toNatClampNeg
  rw [hF, hTh] at f1 f2
  have hold : ∀ x : Nat, x < H.size → G.heap[x]? = H[x]? := fun x1 hx => by
    have := Jvm.Free.Multi.fill_old (T.setVm vm₁) (E.2 4) (E.2 1) x.toNatClampNeg y.toNatClampNeg (defaultValue .int) (a := x1) (by rw [hTh]; exact hx) x.toNatClampNeg
    rw [hF, hTh] at this
    exact this
  have hrow : ∀ j : Nat, j < x.toNatClampNeg → G.heap[H.size + 1 + j]? = some (vp_cell (E.2 1) (y.toNatClampNeg, .inl (fun _ => 0))) := fun j hj => by
    have := Jvm.Free.Multi.fill_inner (T.setVm vm₁) (E.2 4) (E.2 1) x.toNatClampNeg y.toNatClampNeg (defaultValue .int) x.toNatClampNeg j hj
    rw [hF, hTh] at this
    rw [this, vp_cell_i, ← arrV_new]
    rfl
  have hout : Jvm.Free.Multi.outerC (E.2 4) x.toNatClampNeg H.size x.toNatClampNeg = vp_cell (E.2 4) (x.toNatClampNeg, .inr (.inr (.inr (.inr (fun i => if i < x.toNatClampNeg then some (H.size + 1 + i) else none))))) := by
    rw [vp_cell_q]
    exact vr_outer (E.2 4) x.toNatClampNeg H.size x.toNatClampNeg
  rw [hout] at f2
  have hpic : zPic E b (K + 1 + x.toNatClampNeg) (zmf F K x.toNatClampNeg (.inl (E.2 4, x.toNatClampNeg, .inr (.inr (.inr (.inr (fun j => if j < x.toNatClampNeg then some (b + (K + 1 + j)) else none)))))) (.inl (E.2 1, y.toNatClampNeg, .inl (fun _ => 0)))) G.heap := by
    refine ⟨by rw [f1, hP.1]; omega, fun j hj => ?_⟩
    unfold zmf
    by_cases q1 : j = K
    · rw [if_pos q1, q1, ← hP.1]
      show G.heap[H.size]? = some (vp_cell _ _)
      rw [f2]
      refine congrArg (fun f => some (vp_cell (E.2 4) (x.toNatClampNeg, .inr (.inr (.inr (.inr f)))))) (funext fun j => ?_)
      rw [hP.1]
      by_cases q9 : j < x.toNatClampNeg
      · rw [if_pos q9, if_pos q9, show b + K + 1 + j = b + (K + 1 + j) by omega]
      · rw [if_neg q9, if_neg q9]
    · rw [if_neg q1]
      by_cases q2 : K < j ∧ j ≤ K + x.toNatClampNeg
      · rw [if_pos q2]
        show G.heap[b + j]? = some (vp_cell _ _)
        have h8 := hrow (j - (K + 1)) (by omega)
        rw [hP.1, show b + K + 1 + (j - (K + 1)) = b + j by omega] at h8
        exact h8
      · rw [if_neg q2]
        exact (hP.2 j (by omega)).kept (hold _ (by rw [hP.1]; show b + j < b + K; omega))
  have hsz : G.heap.size = b + (K + 1 + x.toNatClampNeg) := hpic.1
  have h9 := kk G.heap locs ls hpic ⟨Nat.le_trans hS.1 (by rw [hsz, hP.1]; omega), fun x1 h1 h2 => (hold x1 (Nat.lt_of_lt_of_le h1 hS.1)).trans (hS.2.1 x1 h1 h2), hS.2.2⟩ hl
  rw [← hP.1, ← Nat.add_assoc k 1, ← Nat.add_assoc n] at h9
  subst hT
  obtain ⟨t, a1, b1⟩ := h9 G rfl X'
  exact ⟨t, step t a1, b1⟩
theorem zp_aast {jj v ci0 : Nat} {j : Int32} {vs : List Value} {f : Nat → Option Nat} {T0 : u_T} {N0 : Nat} (B : zC p s m args meth c9 cc nL own E b) (hi : i < K) (hF : F i = .inl (E.2 3, N, .inr (.inr (.inr (.inr f))))) (hv : v < K) (hV : F v = .inr (ci0, vs)) (hc : vwCl[ci0]? = some ("ToneGraph$Voice", T0, N0)) (hj : j = nI jj) (hlt : jj < N) (hN : N < 2 ^ 31) (d : decode cc pc = .ok (.aastore, 1))
    (kk : zV p l e R s m args below meth c9 Q nL b (zPic E b K (va_up F i (.inl (E.2 3, N, .inr (.inr (.inr (.inr (va_up f jj (some (b + v))))))))) ) (pc + 1) L st k n) : zV p l e R s m args below meth c9 Q nL b (zPic E b K F) pc L (.ref (b + v) :: .int j :: .ref (b + i) :: st) k n := fun H locs ls hP hS hl => by
  subst hj
  have hjn : (nI jj).toNatClampNeg = jj := nI_clamp (Nat.lt_trans hlt hN)
  have hin : vp_in (nI jj) N := vp_in_nI hlt hN
  have hlt9 : (nI jj).toNatClampNeg < N := by rw [hjn]; exact hlt
  have h0 : ¬ nI jj < 0 := fun q => hin (Or.inl q)
  have hK := B.2.2.2.2.2.1.1
  obtain ⟨r', hr', cellV, g1, g2, g3, -⟩ := zp_hat hv hV H hP
  have hcls := (hK.1 ci0 _ hc).2
  obtain ⟨kA, comp, k1, k2, k3, -⟩ := (hK.2 3 _ rfl).2
  have hcomp : comp = E.1.1 ci0 := Option.some.inj (k3.symm.trans hcls.1)
  subst hcomp
  obtain ⟨kC, hkC, -⟩ := hcls.2
  refine W.aast B.1 B.2.1 (zp_hat hi hF H hP) (fun q h => by cases h) (fun h => by cases h) k1 k2 rfl hkC ⟨h0, by show _ < (arrV _ _ _).slots.size; rw [arrV_size]; exact hlt9⟩ g1 (fun q h => by rw [g3] at h; cases h) (by rw [g2]; exact hkC) (by rw [g2]; exact va_assign hcls) rfl rfl d fun H1 e z oq => ?_
  refine kk H1 _ ls (hP.set hi ?_ oq) (hS.put z oq (Nat.le_add_right b i)) hl
  show H1[b + i]? = some (vp_cell _ _)
  rw [e]
  rw [vp_cell_q, vp_cell_q, arrV_store, hjn]
  congr 2
  funext q
  by_cases hq : q = jj
  · subst hq
    simp [updV, va_up, va_rf]
  · simp [updV, va_up, hq]
theorem zp_cast {jj : Nat} {j x : Int32} {f : Nat → Int32} (B : zC p s m args meth c9 cc nL own E b) (hi : i < K) (hF : F i = .inl (E.2 0, N, .inl f)) (hj : j = nI jj) (hlt : jj < N) (hN : N < 2 ^ 31) (hnar : narrow .char (.int x) = .int x) (d : decode cc pc = .ok (.castore, 1))
    (kk : zV p l e R s m args below meth c9 Q nL b (zPic E b K (va_up F i (.inl (E.2 0, N, .inl (upd f jj x))))) (pc + 1) L st k n) : zV p l e R s m args below meth c9 Q nL b (zPic E b K F) pc L (.int x :: .int j :: .ref (b + i) :: st) k n := fun H locs ls hP hS hl =>
  zr_cast B hj hlt hN hnar d hS (Nat.le_add_right b i) (zp_hat hi hF H hP) (fun H1 locs1 h1 h2 h3 => kk H1 locs1 ls (hP.set hi h1 h2) h3 hl)
theorem zp_zast {jj : Nat} {j x : Int32} {f : Nat → Int32} (B : zC p s m args meth c9 cc nL own E b) (hi : i < K) (hF : F i = .inl (E.2 2, N, .inl f)) (hj : j = nI jj) (hlt : jj < N) (hN : N < 2 ^ 31) (hnar : narrow .boolean (.int x) = .int x) (d : decode cc pc = .ok (.bastore, 1))
    (kk : zV p l e R s m args below meth c9 Q nL b (zPic E b K (va_up F i (.inl (E.2 2, N, .inl (upd f jj x))))) (pc + 1) L st k n) : zV p l e R s m args below meth c9 Q nL b (zPic E b K F) pc L (.int x :: .int j :: .ref (b + i) :: st) k n := fun H locs ls hP hS hl =>
  zr_zast B hj hlt hN hnar d hS (Nat.le_add_right b i) (zp_hat hi hF H hP) (fun H1 locs1 h1 h2 h3 => kk H1 locs1 ls (hP.set hi h1 h2) h3 hl)
theorem zp_iast {jj : Nat} {j x : Int32} {f : Nat → Int32} (B : zC p s m args meth c9 cc nL own E b) (hi : i < K) (hF : F i = .inl (E.2 1, N, .inl f)) (hj : j = nI jj) (hlt : jj < N) (hN : N < 2 ^ 31) (d : decode cc pc = .ok (.iastore, 1))
    (kk : zV p l e R s m args below meth c9 Q nL b (zPic E b K (va_up F i (.inl (E.2 1, N, .inl (upd f jj x))))) (pc + 1) L st k n) : zV p l e R s m args below meth c9 Q nL b (zPic E b K F) pc L (.int x :: .int j :: .ref (b + i) :: st) k n := fun H locs ls hP hS hl =>
  zr_iast B hj hlt hN d hS (Nat.le_add_right b i) (zp_hat hi hF H hP) (fun H1 locs1 h1 h2 h3 => kk H1 locs1 ls (hP.set hi h1 h2) h3 hl)
end ZP
