/-! methods with a table: caught exceptions; the long and the double that a call's answer goes into -/
section WR
variable {p : Program} {l : Launch} {e : Env} {R : Room} {s : State} {m : MethodId} {args : Array Value} {below : List Frame} {meth : Method} {c9 : Code} {Q : State → Prop} {nL b : Nat} {P Pc : Heap → Prop} {pc : Nat} {L : List (Nat × Value)} {st rest : List Value} {k n : Nat}
variable {cc : ByteArray} {own : String} {E : zE} {S : Type} {post : Option Value → S → Prop} {Bh : S → Heap → Prop} {mc ms : Nat} {y : MethodName} {ws : List Cond} {rm : Room} {As : List Value} {bytes : ByteArray} {maxL index cnt : Nat} {ret : Option FieldType} {hh : List (Nat × Nat × Nat × Nat)}
variable {c : Nat → Nat → Int32} {w : Nat → Int64} {en : Nat → Nat} {ea : Nat → Nat → Int32}
theorem zM_ofW (own : String) (hy : plainName y.cls = true) (hw : ws = Cond.codeWith y cc maxL ret hh :: zAll) (hcls : y.cls = own) (hlen : (lg_sl As).length ≤ maxL) {L0 : List (Nat × Value)} (hL0 : lv_args 0 As = L0)
    (body : ∀ (p : Program) (e : Env) (s : State) (m : MethodId) (args : Array Value) (below : List Frame) (meth : Method) (c : Code), zC p s m args meth c cc maxL own E b → meth.sig.returnType = ret → c.exceptionTable.toList = tableOf hh →
      zV p l e rm s m args below meth c (MQ below (zQ b post Bh) args s mc ms (zA b)) maxL b P 0 L0 [] 0 0) : zM l y ws rm E b As P post Bh mc ms := by
  refine va_MetW (cc := cc) (maxL := maxL) (ret := ret) (hh := hh) hy hw ?_
  intro p e s m args below meth c s₁ B hml hv
  have ht := vx_table (x := y) B (atoms_spec (ws := ws) B.pre _ (by rw [hw]; exact List.mem_cons_self))
  obtain ⟨rfl, ⟨hI, hbs⟩, hP⟩ := hv
  subst hcls
  subst hL0
  rw [lg_entry_eq]
  exact body p e s m _ below meth c ⟨B.exec, B.bytes, hml, findClass_of_methodNamed B.named, fun w hw9 => atoms_spec (ws := ws) B.pre w (by rw [hw]; exact List.mem_cons_of_mem _ hw9), hI, B.notSynchronized, hbs⟩ B.returns ht s.heap [] _ hP va_S.rf (lv_entry As hlen)
/-- caught by the row x of this method's table -/
theorem zx_catch {X nm : String} (B : zC p s m args meth c9 cc nL own E b) (pre : List ExceptionTableEntry) (x : ExceptionTableEntry) (suf : List ExceptionTableEntry) (hT : c9.exceptionTable.toList = pre ++ x :: suf) (hpre : ∀ z ∈ pre, z.catchType ≠ 0 ∧ ∃ n9 : String, Cond.classLink own z.catchType n9 ∈ zAll ∧ (X, n9) ∈ zNcs) (hx : covers x pc = true) (h0 : x.catchType ≠ 0)
    (hlink : Cond.classLink own x.catchType nm ∈ zAll) (hcast : Cond.castable X nm ∈ zWs) (kk : ∀ q9 : Nat, zV p l e R s m args below meth c9 Q nL b P x.handlerPc L [.ref q9] k n) : zVX p l e R s m args below meth c9 Q nL b P pc L st k n X := fun H locs ls ce q9 hP hS hl hce hcv hcl =>
  vx_catch B.2.2.2.1 pre x suf hT (fun z hz => Or.inr (by
    obtain ⟨h1, n9, h2, h3⟩ := hpre z hz
    exact ⟨h1, n9, B.at h2, B.2.2.2.2.2.1.2.2.2.2.2.2 (X, n9) h3⟩)) hx h0 (B.at hlink) (va_Nw.use (zWs_k _ hcast).1 (B.2.2.2.2.2.1.2.2.2.2.2.1 _ hcast)) hce hcv hcl (kk q9 H locs ls hP hS hl)
theorem zcwSW (cnt d : Nat) (B : zC p s m args meth c9 cc nL own E b) (h1 : Cond.methodLink own index y ∈ zAll) (h2 : Cond.static y ∈ zAll) (h4 : Cond.initialized y.cls ∈ zAll) (h5 : Cond.codeWith y bytes maxL ret hh ∈ zAll) (hd : y.cls ≠ "java/lang/invoke/MethodHandle" ∧ y.cls ≠ "java/lang/invoke/VarHandle" ∧ (parseMethodDescriptor y.desc).map (fun d => d.parameters.length) = some cnt) (hR : d + 1 ≤ R.frames ∧ 8 + (maxL + 11) + 40 * d ≤ R.locals) : vx_CSW R s args own index y bytes maxL ret hh (Cond.codeWith y bytes maxL ret hh :: zAll) (zRm d mc ms) mc ms cnt :=
  vx_cwSW cnt (Ts := zAll) (ws' := zAll) B.2.2.2.2.1 (fun w hw => by
    have hm : w ∈ zAll := by
      unfold va_wsS at hw
      rcases List.mem_append.mp hw with h | h
      · rcases List.mem_cons.mp h with h | h
        · rw [h]; exact h1
        · rcases List.mem_cons.mp h with h | h
          · rw [h]; exact h2
          · rcases List.mem_cons.mp h with h | h
            · rw [h]; exact h4
            · cases h
      · rcases List.mem_cons.mp h with h | h
        · rw [h]; exact h5
        · exact h
    exact ⟨hm, good_of_word (List.mem_filter.mp hm).2⟩) rfl rfl rfl hd hR
theorem zv_callSW (B : zC p s m args meth c9 cc nL own E b) (hM : zM l y ws rm E b As Pc post Bh mc ms) (cw : vx_CSW R s args own index y bytes maxL ret hh ws rm mc ms cnt) (hn9 : As.length = cnt) (hP9 : ∀ H, P H → Pc H) (hst : st = As.reverse ++ rest) (hW : (rest.map fun v => v.category).sum ≤ 8) (d : decode cc pc = .ok (.invokestatic index, 3)) (hf : k + mc ≤ R.cells ∧ n + ms ≤ R.slots)
    (kk : ∀ (v : Option Value) (u : S), post v u → zV p l e R s m args below meth c9 Q nL b (Bh u) (pc + 3) L (v.toList ++ rest) (k + mc) (n + ms)) : zV p l e R s m args below meth c9 Q nL b P pc L st k n := fun H locs ls hP hS hl => by
  subst hst
  exact zc_go (vx_runSW (As := As) (rest := rest) ⟨B.1, B.2.1, B.2.2.1, B.2.2.2.1, B.2.2.2.2.1⟩ hM cw ⟨zPc.blind, fun U hU hW9 => zc_pre B hS (hP9 H hP) U hU hW9⟩ rfl hn9 hl.1 rfl (lv_room hW) d hf) hS hl kk
theorem zs_last {j : Int32} {x : Int64} (B : zC p s m args meth c9 cc nL own E b) (hz : ∀ H, P H → zH E b c w en ea H) (hj : j = nI 0) (d : decode cc pc = .ok (.lastore, 1))
    (kk : zV p l e R s m args below meth c9 Q nL b (zH E b c (va_up w 124 x) en ea) (pc + 1) L st k n) : zV p l e R s m args below meth c9 Q nL b P pc L (.long x :: .int j :: .ref (b + 124) :: st) k n := fun H locs ls hP hS hl =>
  zr_last (N := 1) (jj := 0) (g := fun _ => x) B hj (by decide) (by decide) (fun q hq => by rw [if_pos (by omega)]) d hS (Nat.le_add_right b 124) ((hz H hP).1 124 _ (by decide) (z124 _ _ _)) (fun H1 locs1 h1 h2 h3 => kk H1 locs1 ls (by
    have h9 := (hz H hP).set (x := c 124) (w1 := x) (by decide) rfl (z124 _ _ _) h1 h2
    have e9 : va_up c 124 (c 124) = c := by
      funext j
      by_cases h : j = 124
      · subst h; simp [va_up]
      · simp [va_up, h]
    rwa [e9] at h9) h3 hl)
theorem zs_dast {j : Int32} {x : UInt64} (B : zC p s m args meth c9 cc nL own E b) (hz : ∀ H, P H → zH E b c w en ea H) (hj : j = nI 0) (d : decode cc pc = .ok (.dastore, 1))
    (kk : zV p l e R s m args below meth c9 Q nL b (zH E b c (va_up w 125 x.toInt64) en ea) (pc + 1) L st k n) : zV p l e R s m args below meth c9 Q nL b P pc L (.double x :: .int j :: .ref (b + 125) :: st) k n := fun H locs ls hP hS hl =>
  zr_dast (N := 1) (jj := 0) (g := fun _ => x.toInt64.toUInt64) B hj (by decide) (by decide) (fun q hq => by rw [if_pos (by omega)]; rfl) d hS (Nat.le_add_right b 125) ((hz H hP).1 125 _ (by decide) (z125 _ _ _)) (fun H1 locs1 h1 h2 h3 => kk H1 locs1 ls (by
    have h9 := (hz H hP).set (x := c 125) (w1 := x.toInt64) (by decide) rfl (z125 _ _ _) h1 h2
    have e9 : va_up c 125 (c 125) = c := by
      funext j
      by_cases h : j = 125
      · subst h; simp [va_up]
      · simp [va_up, h]
    rwa [e9] at h9) h3 hl)
end WR
/-- which handler takes it, counted from 1 -/
def lcd : List String → String → Nat
  | [], _ => 0
  | Y :: r, X => if X = Y then 1 else lcd r X + 1
theorem lcd_h (X : String) (r : List String) : lcd (X :: r) X = 1 := if_pos rfl
theorem lcd_s {X Y : String} (h : X ≠ Y) (r : List String) : lcd (Y :: r) X = lcd r X + 1 := if_neg h
