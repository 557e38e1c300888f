/-! calls' words, small rows -/
section Z10
variable {p : Program} {l : Launch} {e : Env} {R : Room} {s : State} {m : MethodId} {args : Array Value} {below : List Frame} {meth : Method} {c : Code} {Q : State → Prop} {nL b : Nat} {P : Heap → Prop} {pc : Nat} {L : List (Nat × Value)} {st : List Value} {k n : Nat}
variable {cc : ByteArray} {own : String} {E : zE}
theorem zv_topi {x y : Int32} (h : x = y) (kk : zV p l e R s m args below meth c Q nL b P pc L (.int y :: st) k n) : zV p l e R s m args below meth c Q nL b P pc L (.int x :: st) k n := by subst h; exact kk
theorem zv_st {st' : List Value} (h : st = st') (kk : zV p l e R s m args below meth c Q nL b P pc L st' k n) : zV p l e R s m args below meth c Q nL b P pc L st k n := by subst h; exact kk
theorem zv_P {P' : Heap → Prop} (h : P = P') (kk : zV p l e R s m args below meth c Q nL b P' pc L st k n) : zV p l e R s m args below meth c Q nL b P pc L st k n := by subst h; exact kk
theorem zv_L {L' : List (Nat × Value)} (h : L = L') (kk : zV p l e R s m args below meth c Q nL b P pc L' st k n) : zV p l e R s m args below meth c Q nL b P pc L st k n := by subst h; exact kk
variable {C : String} {y : MethodName} {bytes : ByteArray} {maxL index mc ms d : Nat} {ret : Option FieldType}
theorem zcwV (cnt d : Nat) (B : zC p s m args meth c cc nL own E b) (h1 : Cond.methodLink own index y ∈ zAll) (h2 : Cond.instanceMethod y ∈ zAll) (h3 : Cond.selects C y y ∈ zAll) (h4 : Cond.initialized C ∈ zAll) (h5 : Cond.code y bytes maxL ret ∈ zAll) (hC : y.cls = C) (hd : y.cls ≠ "java/lang/invoke/MethodHandle" ∧ y.cls ≠ "java/lang/invoke/VarHandle" ∧ (parseMethodDescriptor y.desc).map (fun d => d.parameters.length) = some cnt) (hR : d + 1 ≤ R.frames ∧ 8 + (maxL + 11) + 40 * d ≤ R.locals) : CallW R s args own C index y bytes maxL ret (Cond.code y bytes maxL ret :: zAll) (zRm d mc ms) mc ms cnt :=
  ⟨callB_of cnt (Ts := zAll) (ws' := zAll) B.2.2.2.2.1 (goodAll (a := .tt) h5) rfl rfl rfl (by rw [hC]; exact B.at h4) (B.at h1) hd hR, B.at h2, B.at h3⟩
theorem zcwS (cnt d : Nat) (B : zC p s m args meth c cc nL own E b) (h1 : Cond.methodLink own index y ∈ zAll) (h2 : Cond.static y ∈ zAll) (h4 : Cond.initialized y.cls ∈ zAll) (h5 : Cond.code y bytes maxL ret ∈ zAll) (hd : y.cls ≠ "java/lang/invoke/MethodHandle" ∧ y.cls ≠ "java/lang/invoke/VarHandle" ∧ (parseMethodDescriptor y.desc).map (fun d => d.parameters.length) = some cnt) (hR : d + 1 ≤ R.frames ∧ 8 + (maxL + 11) + 40 * d ≤ R.locals) : CallB R s args own index y bytes maxL ret (Cond.code y bytes maxL ret :: zAll) (zRm d mc ms) mc ms cnt ∧ (Cond.static y).before args s = true :=
  ⟨callB_of cnt (Ts := zAll) (ws' := zAll) B.2.2.2.2.1 (goodAll (a := .tt) h5) rfl rfl rfl (B.at h4) (B.at h1) hd hR, B.at h2⟩
theorem zcwI (cnt d : Nat) (B : zC p s m args meth c cc nL own E b) (h1 : Cond.methodLink own index y ∈ zAll) (h2 : Cond.instanceMethod y ∈ zAll) (h4 : Cond.initialized y.cls ∈ zAll) (h5 : Cond.code y bytes maxL none ∈ zAll) (hy : y.name = "<init>") (hd : y.cls ≠ "java/lang/invoke/MethodHandle" ∧ y.cls ≠ "java/lang/invoke/VarHandle" ∧ (parseMethodDescriptor y.desc).map (fun d => d.parameters.length) = some cnt) (hR : d + 1 ≤ R.frames ∧ 8 + (maxL + 11) + 40 * d ≤ R.locals) : CallB R s args own index y bytes maxL none (Cond.code y bytes maxL none :: zAll) (zRm d mc ms) mc ms cnt ∧ y.name = "<init>" ∧ (Cond.instanceMethod y).before args s = true :=
  ⟨callB_of cnt (Ts := zAll) (ws' := zAll) B.2.2.2.2.1 (goodAll (a := .tt) h5) rfl rfl rfl (B.at h4) (B.at h1) hd hR, hy, B.at h2⟩
theorem zcnB (cnt d j : Nat) {host : String} (B : zC p s m args meth c cc nL own E b) (h1 : zNst[j]? = some (own, index, y, host)) (h4 : Cond.initialized y.cls ∈ zAll) (h5 : Cond.code y bytes maxL ret ∈ zAll) (hd : y.cls ≠ "java/lang/invoke/MethodHandle" ∧ y.cls ≠ "java/lang/invoke/VarHandle" ∧ (parseMethodDescriptor y.desc).map (fun d => d.parameters.length) = some cnt) (hR : d + 1 ≤ R.frames ∧ 8 + (maxL + 11) + 40 * d ≤ R.locals) : va_CN R s args own index y host bytes maxL ret (Cond.code y bytes maxL ret :: zAll) (zRm d mc ms) mc ms cnt :=
  va_cnB cnt (Ts := zAll) (ws' := zAll) B.2.2.2.2.1 (goodAll (a := .tt) h5) rfl rfl rfl (B.2.2.2.2.2.1.2.2.2.1 _ (List.mem_of_getElem? h1)) (B.at h4) hd hR
/-- 'throw new X(text)', the text by a short or a wide index -/
theorem zx_throw {S : Type} {post : Option Value → S → Prop} {Bh : S → Heap → Prop} {px : String → Prop} {X text : String} {ik is ic j : Nat} {names : List String} (B : zC p s m args meth c cc nL "ToneGraph" E b) (hlf : l.stackTraces = false) (ht : ∀ x ∈ c.exceptionTable.toList, False) (hcls : Bundle.fit X = true) (hnames : ∀ n ∈ names, Bundle.fit n = true) (hk : Cond.classLink "ToneGraph" ik X ∈ zAll) (hini : Cond.initialized X ∈ zAll) (hstr : zStrs[j]? = some (is, text)) (hat : ∀ w ∈ vx_atS "ToneGraph" ic X names, w ∈ zWs ∨ w ∈ zAll) (hpx : px X)
    (d0 : decode cc pc = .ok (.new ik, 3)) (d3 : decode cc (pc + 3) = .ok (.dup, 1)) (d4 : decode cc (pc + 4) = .ok (.ldc is, 2)) (d6 : decode cc (pc + 6) = .ok (.invokespecial ic, 3)) (d9 : decode cc (pc + 9) = .ok (.athrow, 1)) (hRf : names.length + 3 < R.frames) (hRl : (st.map fun v => v.category).sum + (13 * (names.length + 1) + 43) ≤ R.locals) (hRc : k + 1 ≤ R.cells) (hRs : n + 6 ≤ R.slots) (hc : k + 1 ≤ mc) (hs : n + 6 ≤ ms) (hP9 : ∀ H H1 : Heap, P H → (∀ q : Nat, q < H.size → H1[q]? = H[q]?) → P H1) :
    zV p l e R s m args below meth c (vx_MQ below (zQ b post Bh) (zXC b px P) args s mc ms (zA b)) nL b P pc L st k n := fun H locs ls hP hS hl => by
  obtain ⟨a, ha⟩ := B.2.2.2.2.2.1.2.2.1 _ (List.mem_of_getElem? hstr)
  have hgw : ∀ w ∈ zAll, vx_ot w = true := fun w hw => by
    unfold vx_ot
    rw [(List.mem_filter.mp hw).2, Bool.or_true]
  have hat2 : ∀ w ∈ vx_atS "ToneGraph" ic X names, w.before args s = true := fun w hw => by
    rcases hat w hw with h | h
    · exact va_Nw.use (zWs_k w h).1 (B.2.2.2.2.2.1.2.2.2.2.2.1 w h)
    · exact B.at h
  refine vx_throwS B.1 B.2.1 hlf B.2.2.2.1 hcls hnames (B.at hk) (B.at hini) ha hat2 (fun w hw => ?_) B.2.2.2.2.2.1.2.1.2.1 B.2.2.2.2.2.1.2.1.2.2 hS (hl.1.trans B.2.2.1.symm) d0 d3 d4 d6 d9 (fun x hx => (ht x hx).elim) hRf hRl hRc hRs B.2.2.2.2.2.2.1 (fun t hal hz hq => ⟨hpx, hP9 H _ hP hq, ?_⟩) hS.2.2 hc hs
  · rcases List.mem_cons.mp hw with h | h
    · rw [h]; exact hgw _ hk
    · rcases List.mem_cons.mp h with h | h
      · rw [h]; exact hgw _ hini
      · rcases hat w h with h | h
        · unfold vx_ot; rw [(zWs_k w h).1, Bool.true_or]
        · exact hgw _ h
  · exact ⟨Nat.le_trans hS.1 hz, fun q h1 h2 => by rw [hq q (Nat.lt_of_lt_of_le h1 hS.1)]; exact hS.2.1 q h1 h2⟩
theorem zx_throwW {S : Type} {post : Option Value → S → Prop} {Bh : S → Heap → Prop} {px : String → Prop} {X text : String} {ik is ic j : Nat} {names : List String} (B : zC p s m args meth c cc nL "ToneGraph" E b) (hlf : l.stackTraces = false) (ht : ∀ x ∈ c.exceptionTable.toList, False) (hcls : Bundle.fit X = true) (hnames : ∀ n ∈ names, Bundle.fit n = true) (hk : Cond.classLink "ToneGraph" ik X ∈ zAll) (hini : Cond.initialized X ∈ zAll) (hstr : zStrs[j]? = some (is, text)) (hat : ∀ w ∈ vx_atS "ToneGraph" ic X names, w ∈ zWs ∨ w ∈ zAll) (hpx : px X)
    (d0 : decode cc pc = .ok (.new ik, 3)) (d3 : decode cc (pc + 3) = .ok (.dup, 1)) (d4 : decode cc (pc + 4) = .ok (.ldc_w is, 3)) (d7 : decode cc (pc + 7) = .ok (.invokespecial ic, 3)) (d10 : decode cc (pc + 10) = .ok (.athrow, 1)) (hRf : names.length + 3 < R.frames) (hRl : (st.map fun v => v.category).sum + (13 * (names.length + 1) + 43) ≤ R.locals) (hRc : k + 1 ≤ R.cells) (hRs : n + 6 ≤ R.slots) (hc : k + 1 ≤ mc) (hs : n + 6 ≤ ms) (hP9 : ∀ H H1 : Heap, P H → (∀ q : Nat, q < H.size → H1[q]? = H[q]?) → P H1) :
    zV p l e R s m args below meth c (vx_MQ below (zQ b post Bh) (zXC b px P) args s mc ms (zA b)) nL b P pc L st k n := fun H locs ls hP hS hl => by
  obtain ⟨a, ha⟩ := B.2.2.2.2.2.1.2.2.1 _ (List.mem_of_getElem? hstr)
  have hgw : ∀ w ∈ zAll, vx_ot w = true := fun w hw => by
    unfold vx_ot
    rw [(List.mem_filter.mp hw).2, Bool.or_true]
  have hat2 : ∀ w ∈ vx_atS "ToneGraph" ic X names, w.before args s = true := fun w hw => by
    rcases hat w hw with h | h
    · exact va_Nw.use (zWs_k w h).1 (B.2.2.2.2.2.1.2.2.2.2.2.1 w h)
    · exact B.at h
  refine vx_throwSW B.1 B.2.1 hlf B.2.2.2.1 hcls hnames (B.at hk) (B.at hini) ha hat2 (fun w hw => ?_) B.2.2.2.2.2.1.2.1.2.1 B.2.2.2.2.2.1.2.1.2.2 hS (hl.1.trans B.2.2.1.symm) d0 d3 d4 d7 d10 (fun x hx => (ht x hx).elim) hRf hRl hRc hRs B.2.2.2.2.2.2.1 (fun t hal hz hq => ⟨hpx, hP9 H _ hP hq, ?_⟩) hS.2.2 hc hs
  · rcases List.mem_cons.mp hw with h | h
    · rw [h]; exact hgw _ hk
    · rcases List.mem_cons.mp h with h | h
      · rw [h]; exact hgw _ hini
      · rcases hat w h with h | h
        · unfold vx_ot; rw [(zWs_k w h).1, Bool.true_or]
        · exact hgw _ h
  · exact ⟨Nat.le_trans hS.1 hz, fun q h1 h2 => by rw [hq q (Nat.lt_of_lt_of_le h1 hS.1)]; exact hS.2.1 q h1 h2⟩
end Z10
theorem zH.kept {E : zE} {b : Nat} {c : Nat → Nat → Int32} {w : Nat → Int64} {en : Nat → Nat} {ea : Nat → Nat → Int32} (H H1 : Heap) (h : zH E b c w en ea H) (hq : ∀ q : Nat, q < H.size → H1[q]? = H[q]?) : zH E b c w en ea H1 :=
  ⟨fun i e0 hi hc => (h.1 i e0 hi hc).kept (hq _ (h.1 i e0 hi hc).lt), fun i hi => (h.2 i hi).kept (hq _ (h.2 i hi).2.2.lt)⟩
theorem zthr95 : ∀ w ∈ vx_atS "ToneGraph" 95 "java/lang/IllegalArgumentException" ["java/lang/RuntimeException", "java/lang/Exception"], w ∈ zWs ∨ w ∈ zAll := by decide +kernel
theorem zthr109 : ∀ w ∈ vx_atS "ToneGraph" 109 "java/lang/IllegalStateException" ["java/lang/RuntimeException", "java/lang/Exception"], w ∈ zWs ∨ w ∈ zAll := by decide +kernel
theorem zthr122 : ∀ w ∈ vx_atS "ToneGraph" 122 "java/lang/UnsupportedOperationException" ["java/lang/RuntimeException", "java/lang/Exception"], w ∈ zWs ∨ w ∈ zAll := by decide +kernel
theorem zthr275 : ∀ w ∈ vx_atS "ToneGraph" 275 "java/lang/IndexOutOfBoundsException" ["java/lang/RuntimeException", "java/lang/Exception"], w ∈ zWs ∨ w ∈ zAll := by decide +kernel
theorem zthr290 : ∀ w ∈ vx_atS "ToneGraph" 290 "java/lang/ArithmeticException" ["java/lang/RuntimeException", "java/lang/Exception"], w ∈ zWs ∨ w ∈ zAll := by decide +kernel
