theorem zI.same {E : zE} {b : Nat} {u U : State} {H : Heap} (hv : U.vm = u.vm) (h : zI E b u H) : zI E b U H := by
  have ha : u.vm.Alike U.vm := by rw [hv]; exact Vm.Alike.refl u.vm
  obtain ⟨h1, h2, h3, h4, ⟨h5, h6⟩, h7, h8⟩ := h
  refine ⟨va_K.moved ha h1, h2.moved ha, fun q hq => ?_, fun q hq => va_Nw.same rfl hv.symm (h4 q hq), ⟨va_AO.moved ha h5, va_AOA.moved ha h6⟩, fun w hw => va_Nw.same (zWs_k w hw).1 hv.symm (h7 w hw), fun q hq => va_Nc.moved ha (h8 q hq)⟩
  obtain ⟨a, ha⟩ := h3 q hq
  exact ⟨a, vk_R.same hv ha⟩
theorem zPc.blind {E : zE} {b : Nat} {As : List Value} {P : Heap → Prop} : FrameBlind (zPc E b As P) := fun a U g mk h => ⟨h.1, ⟨zI.same (u := U) rfl h.2.1.1, h.2.1.2⟩, h.2.2⟩
section ZE
variable {l : Launch} {E : zE} {b : Nat} {S : Type} {post : Option Value → S → Prop} {Bh : S → Heap → Prop} {P : Heap → Prop} {mc ms : Nat} {rm : Room} {y : MethodName} {ws : List Cond} {cc : ByteArray} {maxL : Nat} {ret : Option FieldType} {px : String → Prop}
theorem zM_of {As : List Value} (own : String) (hy : plainName y.cls = true) (hw : ws = Cond.code y cc maxL ret :: zAll) (hcls : y.cls = own) (hlen : (lg_sl As).length ≤ maxL) {L0 : List (Nat × Value)} (hL0 : lv_args 0 As = L0)
    (body : ∀ (p : Program) (e : Env) (s : State) (m : MethodId) (args : Array Value) (below : List Frame) (meth : Method) (c : Code), zC p s m args meth c cc maxL own E b → meth.sig.returnType = ret → meth.name = y.name →
      zV p l e rm s m args below meth c (MQ below (zQ b post Bh) args s mc ms (zA b)) maxL b P 0 L0 [] 0 0) : zM l y ws rm E b As P post Bh mc ms := by
  refine Met.ofW (cc := cc) (maxL := maxL) (ret := ret) hy hw ?_
  intro p e s m args below meth c s₁ B hml hv
  obtain ⟨rfl, ⟨hI, hbs⟩, hP⟩ := hv
  subst hcls
  subst hL0
  rw [lg_entry_eq]
  exact body p e s m _ below meth c ⟨B.exec, B.bytes, hml, findClass_of_methodNamed B.named, fun w hw9 => atoms_spec (ws := ws) B.pre w (by rw [hw]; exact List.mem_cons_of_mem _ hw9), hI, B.notSynchronized, hbs⟩ B.returns (name_of_methodNamed B.named B.method).1 s.heap [] _ hP va_S.rf (lv_entry As hlen)
theorem zX_of {As : List Value} (own : String) (hy : plainName y.cls = true) (hw : ws = Cond.code y cc maxL ret :: zAll) (hcls : y.cls = own) (hlen : (lg_sl As).length ≤ maxL) {L0 : List (Nat × Value)} (hL0 : lv_args 0 As = L0)
    (body : ∀ (p : Program) (e : Env) (s : State) (m : MethodId) (args : Array Value) (below : List Frame) (meth : Method) (c : Code), zC p s m args meth c cc maxL own E b → meth.sig.returnType = ret → (∀ x ∈ c.exceptionTable.toList, False) →
      zV p l e rm s m args below meth c (vx_MQ below (zQ b post Bh) (zXC b px P) args s mc ms (zA b)) maxL b P 0 L0 [] 0 0) : zX l y ws rm E b As P post Bh px mc ms := by
  refine vx_ofW (cc := cc) (maxL := maxL) (ret := ret) hy hw ?_
  intro p e s m args below meth c s₁ B hml ht hv
  obtain ⟨rfl, ⟨hI, hbs⟩, hP⟩ := hv
  subst hcls
  subst hL0
  rw [lg_entry_eq]
  exact body p e s m _ below meth c ⟨B.exec, B.bytes, hml, findClass_of_methodNamed B.named, fun w hw9 => atoms_spec (ws := ws) B.pre w (by rw [hw]; exact List.mem_cons_of_mem _ hw9), hI, B.notSynchronized, hbs⟩ B.returns ht s.heap [] _ hP va_S.rf (lv_entry As hlen)
end ZE
section ZR
variable {p : Program} {l : Launch} {e : Env} {R : Room} {s : State} {m : MethodId} {args : Array Value} {below : List Frame} {meth : Method} {c : Code} {nL b : Nat} {P : Heap → Prop} {pc : Nat} {L : List (Nat × Value)} {k n : Nat}
variable {cc : ByteArray} {own : String} {E : zE} {S : Type} {post : Option Value → S → Prop} {Bh : S → Heap → Prop} {mc ms : Nat} {XC : String → State → State → Prop}
theorem zv_iret (B : zC p s m args meth c cc nL own E b) (v : Int32) (hr : meth.sig.returnType = some .int) (hq : ∀ H, P H → ∃ u : S, post (some (.int v)) u ∧ Bh u H) (hk : k ≤ mc) (hn : n ≤ ms) (d : decode cc pc = .ok (.ireturn, 1)) : zV p l e R s m args below meth c (MQ below (zQ b post Bh) args s mc ms (zA b)) nL b P pc L [.int v] k n := fun H locs ls hP hS hl => W.widen hk hn (W.iret (v := v) B.1 B.2.1 hr (fun t ht hW => (hq H hP).elim (fun u hu => ⟨⟨_, u, rfl, hu.1, by rw [ht]; exact hu.2⟩, hS.F ht⟩)) hS.2.2 d B.2.2.2.2.2.2.1)
theorem zx_iret (B : zC p s m args meth c cc nL own E b) (v : Int32) (hr : meth.sig.returnType = some .int) (hq : ∀ H, P H → ∃ u : S, post (some (.int v)) u ∧ Bh u H) (hk : k ≤ mc) (hn : n ≤ ms) (d : decode cc pc = .ok (.ireturn, 1)) : zV p l e R s m args below meth c (vx_MQ below (zQ b post Bh) XC args s mc ms (zA b)) nL b P pc L [.int v] k n := fun H locs ls hP hS hl => vx_ret (W.widen hk hn (W.iret (v := v) B.1 B.2.1 hr (fun t ht hW => (hq H hP).elim (fun u hu => ⟨⟨_, u, rfl, hu.1, by rw [ht]; exact hu.2⟩, hS.F ht⟩)) hS.2.2 d B.2.2.2.2.2.2.1))
theorem zv_zret (B : zC p s m args meth c cc nL own E b) {ty : FieldType} (v : Int32) (hn9 : narrow ty (.int v) = .int v) (hr : meth.sig.returnType = some ty) (hq : ∀ H, P H → ∃ u : S, post (some (.int v)) u ∧ Bh u H) (hk : k ≤ mc) (hn : n ≤ ms) (d : decode cc pc = .ok (.ireturn, 1)) : zV p l e R s m args below meth c (MQ below (zQ b post Bh) args s mc ms (zA b)) nL b P pc L [.int v] k n := fun H locs ls hP hS hl => W.widen hk hn (W.zret (v := v) B.1 B.2.1 hr hn9 (fun t ht hW => (hq H hP).elim (fun u hu => ⟨⟨_, u, rfl, hu.1, by rw [ht]; exact hu.2⟩, hS.F ht⟩)) hS.2.2 d B.2.2.2.2.2.2.1)
theorem zx_zret (B : zC p s m args meth c cc nL own E b) {ty : FieldType} (v : Int32) (hn9 : narrow ty (.int v) = .int v) (hr : meth.sig.returnType = some ty) (hq : ∀ H, P H → ∃ u : S, post (some (.int v)) u ∧ Bh u H) (hk : k ≤ mc) (hn : n ≤ ms) (d : decode cc pc = .ok (.ireturn, 1)) : zV p l e R s m args below meth c (vx_MQ below (zQ b post Bh) XC args s mc ms (zA b)) nL b P pc L [.int v] k n := fun H locs ls hP hS hl => vx_ret (W.widen hk hn (W.zret (v := v) B.1 B.2.1 hr hn9 (fun t ht hW => (hq H hP).elim (fun u hu => ⟨⟨_, u, rfl, hu.1, by rw [ht]; exact hu.2⟩, hS.F ht⟩)) hS.2.2 d B.2.2.2.2.2.2.1))
theorem zv_lret (B : zC p s m args meth c cc nL own E b) (v : Int64) (hr : meth.sig.returnType = some .long) (hq : ∀ H, P H → ∃ u : S, post (some (.long v)) u ∧ Bh u H) (hk : k ≤ mc) (hn : n ≤ ms) (d : decode cc pc = .ok (.lreturn, 1)) : zV p l e R s m args below meth c (MQ below (zQ b post Bh) args s mc ms (zA b)) nL b P pc L [.long v] k n := fun H locs ls hP hS hl => W.widen hk hn (W.lret (v := v) B.1 B.2.1 hr (fun t ht hW => (hq H hP).elim (fun u hu => ⟨⟨_, u, rfl, hu.1, by rw [ht]; exact hu.2⟩, hS.F ht⟩)) hS.2.2 d B.2.2.2.2.2.2.1)
theorem zx_lret (B : zC p s m args meth c cc nL own E b) (v : Int64) (hr : meth.sig.returnType = some .long) (hq : ∀ H, P H → ∃ u : S, post (some (.long v)) u ∧ Bh u H) (hk : k ≤ mc) (hn : n ≤ ms) (d : decode cc pc = .ok (.lreturn, 1)) : zV p l e R s m args below meth c (vx_MQ below (zQ b post Bh) XC args s mc ms (zA b)) nL b P pc L [.long v] k n := fun H locs ls hP hS hl => vx_ret (W.widen hk hn (W.lret (v := v) B.1 B.2.1 hr (fun t ht hW => (hq H hP).elim (fun u hu => ⟨⟨_, u, rfl, hu.1, by rw [ht]; exact hu.2⟩, hS.F ht⟩)) hS.2.2 d B.2.2.2.2.2.2.1))
theorem zv_vret (B : zC p s m args meth c cc nL own E b)  (hr : meth.sig.returnType = none) (hq : ∀ H, P H → ∃ u : S, post (none) u ∧ Bh u H) (hk : k ≤ mc) (hn : n ≤ ms) (d : decode cc pc = .ok (.return_, 1)) : zV p l e R s m args below meth c (MQ below (zQ b post Bh) args s mc ms (zA b)) nL b P pc L [] k n := fun H locs ls hP hS hl => W.widen hk hn (W.vret B.1 B.2.1 hr (fun t ht hW => (hq H hP).elim (fun u hu => ⟨⟨_, u, rfl, hu.1, by rw [ht]; exact hu.2⟩, hS.F ht⟩)) hS.2.2 d B.2.2.2.2.2.2.1)
theorem zx_vret (B : zC p s m args meth c cc nL own E b)  (hr : meth.sig.returnType = none) (hq : ∀ H, P H → ∃ u : S, post (none) u ∧ Bh u H) (hk : k ≤ mc) (hn : n ≤ ms) (d : decode cc pc = .ok (.return_, 1)) : zV p l e R s m args below meth c (vx_MQ below (zQ b post Bh) XC args s mc ms (zA b)) nL b P pc L [] k n := fun H locs ls hP hS hl => vx_ret (W.widen hk hn (W.vret B.1 B.2.1 hr (fun t ht hW => (hq H hP).elim (fun u hu => ⟨⟨_, u, rfl, hu.1, by rw [ht]; exact hu.2⟩, hS.F ht⟩)) hS.2.2 d B.2.2.2.2.2.2.1))
end ZR
section ZCL
variable {p : Program} {l : Launch} {e : Env} {R : Room} {s : State} {m : MethodId} {args : Array Value} {below : List Frame} {meth : Method} {c : Code} {Q : State → Prop} {nL b : Nat} {P Pc : Heap → Prop} {pc : Nat} {L : List (Nat × Value)} {st rest : List Value} {k n : Nat}
variable {cc : ByteArray} {own C : String} {E : zE} {S : Type} {post : Option Value → S → Prop} {Bh : S → Heap → Prop} {mc ms : Nat} {y : MethodName} {ws : List Cond} {rm : Room} {As : List Value} {q : Nat} {bytes : ByteArray} {maxL index cnt : Nat} {ret : Option FieldType} {px : String → Prop}
theorem zc_pre {s : State} {m : MethodId} {p : Program} {args : Array Value} {meth : Method} {c : Code} {H : Heap} {locs : List Loc} (B : zC p s m args meth c cc nL own E b) (hS : va_S (zA b) s.heap H locs) (hP : Pc H) (U : State) (hU : U.heap = H) (hW : s.WarmedH U.vm) : zPc E b As Pc As.toArray U :=
  ⟨rfl, ⟨by rw [hU]; exact B.2.2.2.2.2.1.to hW hS, by rw [hU]; exact Nat.le_trans B.2.2.2.2.2.2.2 hS.1⟩, by rw [hU]; exact hP⟩
theorem zc_go {a : Array Value} {H : Heap} {locs : List Loc} {ls : Array Slot} (hr : va_Run p l e R s m args below meth c H locs k n mc ms (F0 m pc ls st) rest (zQ b post Bh a) (zA b)) (hS : va_S (zA b) s.heap H locs) (hl : lv_has ls nL L)
    (kk : ∀ (v : Option Value) (u : S), post v u → zV p l e R s m args below meth c Q nL b (Bh u) (pc + 3) L (v.toList ++ rest) (k + mc) (n + ms)) : W p l e R s m args below meth c H locs k n Q (F0 m pc ls st) := by
  intro T hT X
  obtain ⟨v, st₀, t, T', Lc, h0, X', hL, e1, e2, ⟨⟨v', u, hv, hp, hb⟩, hz, hk⟩, stp⟩ := hr T hT X
  cases hv
  rw [h0] at hz hk
  obtain ⟨t2, a1, b1⟩ := kk v u hp T'.heap (locs ++ Lc) ls (by rw [e1]; exact hb)
    ⟨Nat.le_trans hS.1 (by rw [e1]; exact hz), fun x h1 h2 => by rw [e1, hk x (Nat.lt_of_lt_of_le h1 hS.1) h2]; exact hS.2.1 x h1 h2, fun x hx => by
      rcases List.mem_append.mp hx with h | h
      · exact hS.2.2 x h
      · exact hL x h⟩ hl T' rfl X'
  exact ⟨t2, stp t2 a1, b1⟩
theorem zv_callV (B : zC p s m args meth c cc nL own E b) (hM : zM l y ws rm E b (.ref q :: As) Pc post Bh mc ms) (cw : CallW R s args own C index y bytes maxL ret ws rm mc ms cnt) (hn9 : As.length = cnt) (hrecv : ∀ H, P H → ∃ cell : Cell, H[q]? = some cell ∧ cell.vm.isStatics = false ∧ s.vm.findClass C = some cell.cls) (hP9 : ∀ H, P H → Pc H) (hst : st = As.reverse ++ .ref q :: rest) (hW : (rest.map fun v => v.category).sum ≤ 8) (d : decode cc pc = .ok (.invokevirtual index, 3)) (hf : k + mc ≤ R.cells ∧ n + ms ≤ R.slots)
    (kk : ∀ (v : Option Value) (u : S), post v u → zV p l e R s m args below meth c Q nL b (Bh u) (pc + 3) L (v.toList ++ rest) (k + mc) (n + ms)) : zV p l e R s m args below meth c Q nL b P pc L st k n := fun H locs ls hP hS hl => by
  subst hst
  exact zc_go (va_runV (As := As) (rest := rest) ⟨B.1, B.2.1, B.2.2.1, B.2.2.2.1, B.2.2.2.2.1⟩ hM cw ⟨zPc.blind, hrecv H hP, fun U hU hW9 => zc_pre B hS (hP9 H hP) U hU hW9⟩ rfl hn9 hl.1 rfl (lv_room hW) d hf) hS hl kk
theorem zv_callS (B : zC p s m args meth c cc nL own E b) (hM : zM l y ws rm E b As Pc post Bh mc ms) (cw : CallB R s args own index y bytes maxL ret ws rm mc ms cnt ∧ (Cond.static y).before args s = true) (hn9 : As.length = cnt) (hP9 : ∀ H, P H → Pc H) (hst : st = As.reverse ++ rest) (hW : (rest.map fun v => v.category).sum ≤ 8) (d : decode cc pc = .ok (.invokestatic index, 3)) (hf : k + mc ≤ R.cells ∧ n + ms ≤ R.slots)
    (kk : ∀ (v : Option Value) (u : S), post v u → zV p l e R s m args below meth c Q nL b (Bh u) (pc + 3) L (v.toList ++ rest) (k + mc) (n + ms)) : zV p l e R s m args below meth c Q nL b P pc L st k n := fun H locs ls hP hS hl => by
  subst hst
  exact zc_go (va_runS (As := As) (rest := rest) ⟨B.1, B.2.1, B.2.2.1, B.2.2.2.1, B.2.2.2.2.1⟩ hM cw ⟨zPc.blind, fun U hU hW9 => zc_pre B hS (hP9 H hP) U hU hW9⟩ rfl hn9 hl.1 rfl (lv_room hW) d hf) hS hl kk
theorem zv_callSN {host : String} (B : zC p s m args meth c cc nL own E b) (hM : zM l y ws rm E b As Pc post Bh mc ms) (cw : va_CN R s args own index y host bytes maxL ret ws rm mc ms cnt ∧ (Cond.static y).before args s = true) (hn9 : As.length = cnt) (hP9 : ∀ H, P H → Pc H) (hst : st = As.reverse ++ rest) (hW : (rest.map fun v => v.category).sum ≤ 8) (d : decode cc pc = .ok (.invokestatic index, 3)) (hf : k + mc ≤ R.cells ∧ n + ms ≤ R.slots)
    (kk : ∀ (v : Option Value) (u : S), post v u → zV p l e R s m args below meth c Q nL b (Bh u) (pc + 3) L (v.toList ++ rest) (k + mc) (n + ms)) : zV p l e R s m args below meth c Q nL b P pc L st k n := fun H locs ls hP hS hl => by
  subst hst
  exact zc_go (va_runSN (As := As) (rest := rest) ⟨B.1, B.2.1, B.2.2.1, B.2.2.2.1, B.2.2.2.2.1⟩ hM ⟨cw.1, cw.2, trivial⟩ ⟨zPc.blind, fun U hU hW9 => zc_pre B hS (hP9 H hP) U hU hW9⟩ rfl hn9 hl.1 rfl (lv_room hW) d hf) hS hl kk
theorem zv_callI (B : zC p s m args meth c cc nL own E b) (hM : zM l y ws rm E b (.ref q :: As) Pc post Bh mc ms) (cw : CallB R s args own index y bytes maxL none ws rm mc ms cnt ∧ y.name = "<init>" ∧ (Cond.instanceMethod y).before args s = true) (hn9 : As.length = cnt) (hP9 : ∀ H, P H → Pc H) (hst : st = As.reverse ++ .ref q :: rest) (hW : (rest.map fun v => v.category).sum ≤ 8) (d : decode cc pc = .ok (.invokespecial index, 3)) (hf : k + mc ≤ R.cells ∧ n + ms ≤ R.slots)
    (kk : ∀ (v : Option Value) (u : S), post v u → zV p l e R s m args below meth c Q nL b (Bh u) (pc + 3) L (v.toList ++ rest) (k + mc) (n + ms)) : zV p l e R s m args below meth c Q nL b P pc L st k n := fun H locs ls hP hS hl => by
  subst hst
  exact zc_go (va_runI (As := As) (rest := rest) ⟨B.1, B.2.1, B.2.2.1, B.2.2.2.1, B.2.2.2.2.1⟩ hM cw ⟨zPc.blind, fun U hU hW9 => zc_pre B hS (hP9 H hP) U hU hW9⟩ rfl hn9 hl.1 rfl (lv_room hW) d hf) hS hl kk
theorem zv_callIN {host : String} (B : zC p s m args meth c cc nL own E b) (hM : zM l y ws rm E b (.ref q :: As) Pc post Bh mc ms) (cw : va_CN R s args own index y host bytes maxL none ws rm mc ms cnt ∧ y.name = "<init>" ∧ (Cond.instanceMethod y).before args s = true) (hn9 : As.length = cnt) (hP9 : ∀ H, P H → Pc H) (hst : st = As.reverse ++ .ref q :: rest) (hW : (rest.map fun v => v.category).sum ≤ 8) (d : decode cc pc = .ok (.invokespecial index, 3)) (hf : k + mc ≤ R.cells ∧ n + ms ≤ R.slots)
    (kk : ∀ (v : Option Value) (u : S), post v u → zV p l e R s m args below meth c Q nL b (Bh u) (pc + 3) L (v.toList ++ rest) (k + mc) (n + ms)) : zV p l e R s m args below meth c Q nL b P pc L st k n := fun H locs ls hP hS hl => by
  subst hst
  exact zc_go (va_runIN (As := As) (rest := rest) ⟨B.1, B.2.1, B.2.2.1, B.2.2.2.1, B.2.2.2.2.1⟩ hM cw ⟨zPc.blind, fun U hU hW9 => zc_pre B hS (hP9 H hP) U hU hW9⟩ rfl hn9 hl.1 rfl (lv_room hW) d hf) hS hl kk
/-- a callee that may throw: its world is as it was, then -/
theorem zc_goX {a : Array Value} {H : Heap} {locs : List Loc} {ls : Array Slot} (hr : vx_Run p l e R s m args below meth c H locs k n mc ms (F0 m pc ls st) rest (zQ b post Bh a) (zXC b px Pc) (zA b)) (hS : va_S (zA b) s.heap H locs) (hl : lv_has ls nL L)
    (kx : ∀ X : String, px X → zVX p l e R s m args below meth c Q nL b Pc pc L rest (k + mc) (n + ms) X)
    (kk : ∀ (v : Option Value) (u : S), post v u → zV p l e R s m args below meth c Q nL b (Bh u) (pc + 3) L (v.toList ++ rest) (k + mc) (n + ms)) : W p l e R s m args below meth c H locs k n Q (F0 m pc ls st) := by
  intro T hT X
  rcases hr T hT X with ⟨v, st₀, t, T', Lc, h0, X', hL, e1, e2, ⟨⟨v', u, hv, hp, hb⟩, hF⟩, stp⟩ | ⟨q9, st₀, t, T', Lc, Xn, ce, h0, X', hL, e1, e2, ⟨hp, hPP, hF⟩, hce, hcv, hcl, stp⟩
  · cases hv
    obtain ⟨k1, k2, k3⟩ := vx_keep h0 e1 hS (fun _ _ h => h) (fun _ h => h) hL hF
    obtain ⟨t2, a1, b1⟩ := kk v u hp T'.heap (locs ++ Lc) ls (by rw [e1]; exact hb) k3 hl T' rfl X'
    exact ⟨t2, stp t2 a1, b1⟩
  · obtain ⟨k1, k2, k3⟩ := vx_keep h0 e1 hS (fun _ _ h => h) (fun _ h => h) hL hF
    obtain ⟨t2, a1, b1⟩ := kx Xn hp T'.heap (locs ++ Lc) ls ce q9 (by rw [e1]; exact hPP) k3 hl (by rw [e1]; exact hce) hcv hcl T' rfl X'
    exact ⟨t2, stp.trans a1, b1⟩
theorem zv_callVX (B : zC p s m args meth c cc nL own E b) (hM : zX l y ws rm E b (.ref q :: As) Pc post Bh px mc ms) (cw : CallW R s args own C index y bytes maxL ret ws rm mc ms cnt) (hn9 : As.length = cnt) (hrecv : ∀ H, P H → ∃ cell : Cell, H[q]? = some cell ∧ cell.vm.isStatics = false ∧ s.vm.findClass C = some cell.cls) (hP9 : ∀ H, P H → Pc H) (hst : st = As.reverse ++ .ref q :: rest) (hW : (rest.map fun v => v.category).sum ≤ 8) (d : decode cc pc = .ok (.invokevirtual index, 3)) (hf : k + mc ≤ R.cells ∧ n + ms ≤ R.slots)
    (kx : ∀ X : String, px X → zVX p l e R s m args below meth c Q nL b Pc pc L rest (k + mc) (n + ms) X)
    (kk : ∀ (v : Option Value) (u : S), post v u → zV p l e R s m args below meth c Q nL b (Bh u) (pc + 3) L (v.toList ++ rest) (k + mc) (n + ms)) : zV p l e R s m args below meth c Q nL b P pc L st k n := fun H locs ls hP hS hl => by
  subst hst
  exact zc_goX (vx_runV (As := As) (rest := rest) ⟨B.1, B.2.1, B.2.2.1, B.2.2.2.1, B.2.2.2.2.1⟩ hM cw ⟨zPc.blind, hrecv H hP, fun U hU hW9 => zc_pre B hS (hP9 H hP) U hU hW9⟩ rfl hn9 hl.1 rfl (lv_room hW) d hf) hS hl kx kk
theorem zv_callSX (B : zC p s m args meth c cc nL own E b) (hM : zX l y ws rm E b As Pc post Bh px mc ms) (cw : CallB R s args own index y bytes maxL ret ws rm mc ms cnt ∧ (Cond.static y).before args s = true) (hn9 : As.length = cnt) (hP9 : ∀ H, P H → Pc H) (hst : st = As.reverse ++ rest) (hW : (rest.map fun v => v.category).sum ≤ 8) (d : decode cc pc = .ok (.invokestatic index, 3)) (hf : k + mc ≤ R.cells ∧ n + ms ≤ R.slots)
    (kx : ∀ X : String, px X → zVX p l e R s m args below meth c Q nL b Pc pc L rest (k + mc) (n + ms) X)
    (kk : ∀ (v : Option Value) (u : S), post v u → zV p l e R s m args below meth c Q nL b (Bh u) (pc + 3) L (v.toList ++ rest) (k + mc) (n + ms)) : zV p l e R s m args below meth c Q nL b P pc L st k n := fun H locs ls hP hS hl => by
  subst hst
  exact zc_goX (vx_runS (As := As) (rest := rest) ⟨B.1, B.2.1, B.2.2.1, B.2.2.2.1, B.2.2.2.2.1⟩ hM cw ⟨zPc.blind, fun U hU hW9 => zc_pre B hS (hP9 H hP) U hU hW9⟩ rfl hn9 hl.1 rfl (lv_room hW) d hf) hS hl kx kk
/-- an exception goes on to the caller -/
theorem zx_out {X : String} (B : zC p s m args meth c cc nL own E b) (ht : ∀ x ∈ c.exceptionTable.toList, False) (hpx : px X) (hPP : ∀ H, P H → Pc H) (hk : k ≤ mc) (hn : n ≤ ms) : zVX p l e R s m args below meth c (vx_MQ below (zQ b post Bh) (zXC b px Pc) args s mc ms (zA b)) nL b P pc L st k n X := fun H locs ls ce q9 hP hS hl hce hcv hcl =>
  vx_out (fun x hx => (ht x hx).elim) B.2.2.2.2.2.2.1 hce hcv hcl (fun t hth hal => ⟨hpx, by rw [hth]; exact hPP H hP, hS.F hth⟩) hS.2.2 hk hn
end ZCL
