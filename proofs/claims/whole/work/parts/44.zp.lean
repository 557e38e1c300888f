section ZNW
variable {p : Program} {l : Launch} {e : Env} {R : Room} {s : State} {m : MethodId} {args : Array Value} {below : List Frame} {meth : Method} {c : Code} {Q : State → Prop} {nL b : Nat} {pc : Nat} {L : List (Nat × Value)} {rest : List Value} {k n : Nat}
variable {cc : ByteArray} {own : String} {E : zE} {H : Heap} {locs : List Loc} {ls : Array Slot}
theorem zr_new (B : zC p s m args meth c cc nL own E b) {C : String} {T : u_T} {N ci index : Nat} {fs : List Value} (hin : ∀ w ∈ u_ws C T N, w ∈ zAll) (ty0 : Nat → FieldType) (hty : ∀ j, j < N → parseFieldDescriptor (T j).2.2.1 = some (ty0 j)) (hc : vwCl[ci]? = some (C, T, N)) (hlink : Cond.classLink own index C ∈ zAll) (hinst : Cond.instantiable C N ∈ zAll) (hini : Cond.initialized C ∈ zAll) (hfs : ∀ j, j < N → defaultValue (ty0 j) = vp_V fs j) (hk : k + 1 ≤ R.cells) (hn : n + N ≤ R.slots) (d : decode cc pc = .ok (.new index, 3)) (hS : va_S (zA b) s.heap H locs)
    (kk : ∀ (H1 : Heap), va_at E.1 vwCl (H.size, .inr (ci, fs)) H1 → H1.size = H.size + 1 → (∀ q : Nat, q < H.size → H1[q]? = H[q]?) → va_S (zA b) s.heap H1 locs → W p l e R s m args below meth c H1 locs (k + 1) (n + N) Q (F0 m (pc + 3) ls (.ref H.size :: rest))) : W p l e R s m args below meth c H locs k n Q (F0 m pc ls rest) := by
  have hKn := B.2.2.2.2.2.1.1.1 ci _ hc
  refine W.newcK B.1 B.2.1 B.2.2.2.1 (B.at hlink) (B.at hinst) (B.at hini) rfl d hk hn hKn.2.1 rfl fun H1 kC hkC e1 z1 o1 => ?_
  exact kk H1 ⟨_, hc, (u_born ty0 B.2.2.2.2.1 hin hKn hkC e1 hty).to hfs⟩ z1 o1 ⟨Nat.le_trans hS.1 (by omega), fun x h1 h2 => (o1 x (Nat.lt_of_lt_of_le h1 hS.1)).trans (hS.2.1 x h1 h2), hS.2.2⟩
theorem zr_putF (B : zC p s m args meth c cc nL own E b) {C : String} {T : u_T} {N ci index a : Nat} {fs : List Value} {v : Value} {ty : FieldType} (hin : ∀ w ∈ u_ws C T N, w ∈ zAll) (ty0 : Nat → FieldType) (hty : ∀ j, j < N → parseFieldDescriptor (T j).2.2.1 = some (ty0 j)) (hnm : ∀ i, i < N → ∀ j, j < N → i ≠ j → (T i).2.1 ≠ (T j).2.1) (hc : vwCl[ci]? = some (C, T, N)) (f : Nat) (hf : f < N) (hlink : (Cond.fieldLink own index (T f).1 (T f).2.1 (T f).2.2.1).before args s = true) (hfin : (T f).2.2.2 = true) (hin2 : meth.name = "<init>") (hdecl : (T f).1 = own) (hd : parseFieldDescriptor (T f).2.2.1 = some ty) (hn9 : narrow ty v = v) (hfit : fits ty v = true) (hl : f < fs.length) (d : decode cc pc = .ok (.putfield index, 3)) (hS : va_S (zA b) s.heap H locs) (ha : b ≤ a) (hat : va_at E.1 vwCl (a, .inr (ci, fs)) H)
    (kk : ∀ (H1 : Heap) (locs1 : List Loc), va_at E.1 vwCl (a, .inr (ci, fs.set f v)) H1 → (∀ q : Nat, q ≠ a → H1[q]? = H[q]?) → va_S (zA b) s.heap H1 locs1 → W p l e R s m args below meth c H1 locs1 k n Q (F0 m (pc + 3) ls rest)) : W p l e R s m args below meth c H locs k n Q (F0 m pc ls (v :: .ref a :: rest)) := by
  have hK := B.2.2.2.2.2.1.1
  have hap := va_apart (own := own) B.2.2.2.2.1 hin ty0 hty hnm hK hc
  obtain ⟨r, h1, cell, q1, q2, q3, q4⟩ := hat
  have hr : r = (C, T, N) := Option.some.inj (h1.symm.trans hc)
  subst hr
  obtain ⟨hSl, hfc, kC, hkC, hkind⟩ := hK.1 ci _ hc
  obtain ⟨cf, kf, fi, fd, hi, hsl⟩ := hSl f hf
  have hlay := B.2.2.2.2.1 _ (hin _ (u_in_lay hf))
  unfold u_lay at hlay
  rw [if_pos hfin] at hlay
  have hst := (u_facts hfc hkC (u_lays B.2.2.2.2.1 hin hf) hi).1
  have hcf : m.cls = cf := by
    obtain ⟨_, _, c', _, _, _, -, -, hf', -, -, -, hown2, -⟩ := Cond.laysFinal_spec hlay
    have e1 : c' = cf := by have := hi.symm.trans hf'; simp at this; exact this.1.symm
    rw [hdecl] at hown2
    rw [← e1]; exact Option.some.inj (B.2.2.2.1.symm.trans hown2)
  have h6 := u_fits hfc hkC hkind (Or.inr hlay) hi hd hn9 hfit
  refine W.putFinK B.1 B.2.1 B.2.2.2.1 hlink hi hst hcf hin2 (by rw [q2]; exact h6) q1 q3 (by rw [hsl]; exact k2_hasslot (q4 f hf)) rfl rfl d fun H' e1 e2 e3 => ?_
  rw [hsl] at e1 ⊢
  exact kk H' _ ⟨_, hc, t_OB.to (V := updV (vp_V fs) f v) ⟨_, e1, q2, q3, t_set q4 hap hf v⟩ (fun j _ => vp_updV_set hl v j)⟩ e3 (hS.put e2 e3 ha)
theorem zsz9 {a : Nat} {x : va_E} {H H1 : Heap} {D : va_G} {cl : List vw_C} (h0 : a < H.size) (h1 : va_at D cl (a, x) H1) (oq : ∀ q : Nat, q ≠ a → H1[q]? = H[q]?) : H1.size = H.size := by
  have hl : a < H1.size := h1.lt
  rcases Nat.lt_trichotomy H1.size H.size with h | h | h
  · by_cases e : H1.size = a
    · omega
    · have := oq H1.size e
      rw [Array.getElem?_eq_none (Nat.le_refl _)] at this
      rw [Array.getElem?_eq_getElem h] at this
      cases this
  · exact h
  · have := oq H.size (by omega)
    rw [Array.getElem?_eq_none (xs := H) (Nat.le_refl _), Array.getElem?_eq_getElem h] at this
    cases this
end ZNW
/-- the picture under construction: the first k places hold what F says -/
def zPic (E : zE) (b k : Nat) (F : Nat → va_E) (H : Heap) : Prop := H.size = b + k ∧ ∀ i, i < k → va_at E.1 vwCl (b + i, F i) H
theorem zPic.push {E : zE} {b k : Nat} {F : Nat → va_E} {e0 : va_E} {H H1 : Heap} (h : zPic E b k F H) (h1 : va_at E.1 vwCl (H.size, e0) H1) (hs : H1.size = H.size + 1) (ho : ∀ q : Nat, q < H.size → H1[q]? = H[q]?) : zPic E b (k + 1) (va_up F k e0) H1 := by
  refine ⟨by rw [hs, h.1]; rfl, fun i hi => ?_⟩
  by_cases q : i = k
  · subst q
    rw [show va_up F i e0 i = e0 by simp [va_up], ← h.1]; exact h1
  · rw [show va_up F k e0 i = F i by simp [va_up, q]]
    exact (h.2 i (by omega)).kept (ho _ (by rw [h.1]; show b + i < b + k; omega))
theorem zPic.set {E : zE} {b k i : Nat} {F : Nat → va_E} {e1 : va_E} {H H1 : Heap} (h : zPic E b k F H) (hi : i < k) (h1 : va_at E.1 vwCl (b + i, e1) H1) (ho : ∀ q : Nat, q ≠ b + i → H1[q]? = H[q]?) : zPic E b k (va_up F i e1) H1 := by
  refine ⟨by rw [zsz9 (by rw [h.1]; omega) h1 ho]; exact h.1, fun j hj => ?_⟩
  by_cases q : j = i
  · subst q
    rw [show va_up F j e1 j = e1 by simp [va_up]]; exact h1
  · rw [show va_up F i e1 j = F j by simp [va_up, q]]
    exact (h.2 j hj).kept (ho _ (by show b + j ≠ b + i; omega))
theorem zPic.eq {E : zE} {b k : Nat} {F F' : Nat → va_E} {H : Heap} (h : zPic E b k F H) (e : ∀ i, i < k → F i = F' i) : zPic E b k F' H := ⟨h.1, fun i hi => by rw [← e i hi]; exact h.2 i hi⟩
theorem zls {P : Nat → Prop} {n : Nat} (h : ∀ i, i < n → P i) (h1 : P n) : ∀ i, i < n + 1 → P i := fun i hi => by
  by_cases e : i = n
  · subst e; exact h1
  · exact h i (by omega)
theorem zl0 {P : Nat → Prop} : ∀ i, i < 0 → P i := fun i hi => absurd hi (Nat.not_lt_zero i)
section ZP
variable {p : Program} {l : Launch} {e : Env} {R : Room} {s : State} {m : MethodId} {args : Array Value} {below : List Frame} {meth : Method} {c9 : Code} {Q : State → Prop} {nL b : Nat} {P : Heap → Prop} {pc : Nat} {L : List (Nat × Value)} {st : List Value} {k n : Nat}
variable {cc : ByteArray} {own : String} {E : zE} {K i ci N ix : Nat} {F : Nat → va_E} {fs : List Value} {C : String} {T : u_T}
theorem zp_hat (hi : i < K) {e1 : va_E} (hF : F i = e1) : ∀ H, zPic E b K F H → va_at E.1 vwCl (b + i, e1) H := fun H h => by rw [← hF]; exact h.2 i hi
theorem zp_new (B : zC p s m args meth c9 cc nL own E b) (hin : ∀ w ∈ u_ws C T N, w ∈ zAll) (ty0 : Nat → FieldType) (hty : ∀ j, j < N → parseFieldDescriptor (T j).2.2.1 = some (ty0 j)) (hc : vwCl[ci]? = some (C, T, N)) (hlink : Cond.classLink own ix C ∈ zAll) (hinst : Cond.instantiable C N ∈ zAll) (hini : Cond.initialized C ∈ zAll) (hfs : ∀ j, j < N → defaultValue (ty0 j) = vp_V fs j) {K1 : Nat} (hK : K + 1 = K1) (hk : k + 1 ≤ R.cells) (hn : n + N ≤ R.slots) (d : decode cc pc = .ok (.new ix, 3))
    (kk : zV p l e R s m args below meth c9 Q nL b (zPic E b K1 (va_up F K (.inr (ci, fs)))) (pc + 3) L (.ref (b + K) :: st) (k + 1) (n + N)) : zV p l e R s m args below meth c9 Q nL b (zPic E b K F) pc L st k n := fun H locs ls hP hS hl => by
  subst hK
  exact zr_new B hin ty0 hty hc hlink hinst hini hfs hk hn d hS (fun H1 h1 h2 h3 h4 => by
    have := kk H1 locs ls (hP.push h1 h2 h3) h4 hl
    rwa [← hP.1] at this)
theorem zp_put {f : Nat} {v : Value} {ty : FieldType} (B : zC p s m args meth c9 cc nL own E b) (hi : i < K) (hF : F i = .inr (ci, fs)) (hc : vwCl[ci]? = some (C, T, N)) (hin : ∀ w ∈ u_ws C T N, w ∈ zAll) (ty0 : Nat → FieldType) (hty : ∀ j, j < N → parseFieldDescriptor (T j).2.2.1 = some (ty0 j)) (hnm : ∀ i, i < N → ∀ j, j < N → i ≠ j → (T i).2.1 ≠ (T j).2.1) (hf : f < N) (hlink : Cond.fieldLink own ix (T f).1 (T f).2.1 (T f).2.2.1 ∈ zAll) (hfin : (T f).2.2.2 = false) (hd : parseFieldDescriptor (T f).2.2.1 = some ty) (hn9 : narrow ty v = v) (hfit : fits ty v = true) (hl9 : f < fs.length) (d : decode cc pc = .ok (.putfield ix, 3))
    (kk : zV p l e R s m args below meth c9 Q nL b (zPic E b K (va_up F i (.inr (ci, fs.set f v)))) (pc + 3) L st k n) : zV p l e R s m args below meth c9 Q nL b (zPic E b K F) pc L (v :: .ref (b + i) :: st) k n := fun H locs ls hP hS hl =>
  zr_put B hin ty0 hty hnm hc f hf (B.at hlink) hfin hd hn9 hfit hl9 d hS (Nat.le_add_right b i) (zp_hat hi hF H hP) (fun H1 locs1 h1 h2 h3 => kk H1 locs1 ls (hP.set hi h1 h2) h3 hl)
theorem zp_putF {f : Nat} {v : Value} {ty : FieldType} (B : zC p s m args meth c9 cc nL own E b) (hnm9 : meth.name = "<init>") (hi : i < K) (hF : F i = .inr (ci, fs)) (hc : vwCl[ci]? = some (C, T, N)) (hin : ∀ w ∈ u_ws C T N, w ∈ zAll) (ty0 : Nat → FieldType) (hty : ∀ j, j < N → parseFieldDescriptor (T j).2.2.1 = some (ty0 j)) (hnm : ∀ i, i < N → ∀ j, j < N → i ≠ j → (T i).2.1 ≠ (T j).2.1) (hf : f < N) (hlink : Cond.fieldLink own ix (T f).1 (T f).2.1 (T f).2.2.1 ∈ zAll) (hfin : (T f).2.2.2 = true) (hdecl : (T f).1 = own) (hd : parseFieldDescriptor (T f).2.2.1 = some ty) (hn9 : narrow ty v = v) (hfit : fits ty v = true) (hl9 : f < fs.length) (d : decode cc pc = .ok (.putfield ix, 3))
    (kk : zV p l e R s m args below meth c9 Q nL b (zPic E b K (va_up F i (.inr (ci, fs.set f v)))) (pc + 3) L st k n) : zV p l e R s m args below meth c9 Q nL b (zPic E b K F) pc L (v :: .ref (b + i) :: st) k n := fun H locs ls hP hS hl =>
  zr_putF B hin ty0 hty hnm hc f hf (B.at hlink) hfin hnm9 hdecl hd hn9 hfit hl9 d hS (Nat.le_add_right b i) (zp_hat hi hF H hP) (fun H1 locs1 h1 h2 h3 => kk H1 locs1 ls (hP.set hi h1 h2) h3 hl)
theorem zp_newa {atype : ArrayType} {t0 : Nat} {cA : ClassId} {x : Int32} {a0 : vp_A} (B : zC p s m args meth c9 cc nL own E b) (harr : Cond.arrayClass (newarray.typeOf atype) ∈ zAll) (ht : (zTys E)[t0]? = some (cA, newarray.typeOf atype)) (hobj : ∀ C, newarray.typeOf atype ≠ .object C) (ha : vp_cell cA a0 = arrV cA N (fun _ => defaultValue (newarray.typeOf atype))) (hn0 : ¬ x < 0) (hN : x.toNatClampNeg = N) (hb9 : N * componentBytes (newarray.typeOf atype) ≤ 536870912) {K1 : Nat} (hK : K + 1 = K1) (hk : k + 1 ≤ R.cells) (hn : n + N ≤ R.slots) (d : decode cc pc = .ok (.newarray atype, 2))
    (kk : zV p l e R s m args below meth c9 Q nL b (zPic E b K1 (va_up F K (.inl (cA, a0)))) (pc + 2) L (.ref (b + K) :: st) (k + 1) (n + N)) : zV p l e R s m args below meth c9 Q nL b (zPic E b K F) pc L (.int x :: st) k n := fun H locs ls hP hS hl => by
  subst hK
  exact va_newaK B.1 B.2.1 (B.at harr) (g := F0 m pc ls (.int x :: st)) rfl d rfl hn0 hN hb9 hk hn rfl (fun H1 cA1 e1 z1 o1 hAr hNm => by
    have hR := (B.2.2.2.2.2.1.1.2 t0 _ ht).2
    have hc9 : s.vm.findClass ("[" ++ (newarray.typeOf atype).toString) = some cA := by
      cases h9 : newarray.typeOf atype with
      | object C => exact absurd h9 (hobj C)
      | _ => simp only [h9] at hR; exact hR
    have ec : cA1 = cA := Option.some.inj (hNm.symm.trans hc9)
    subst ec
    have h7 : va_at E.1 vwCl (H.size, .inl (cA1, a0)) H1 := by
      show H1[H.size]? = some (vp_cell cA1 a0)
      rw [ha]; exact e1
    have := kk H1 locs ls (hP.push h7 z1 o1) ⟨Nat.le_trans hS.1 (by omega), fun x h1 h2 => (o1 x (Nat.lt_of_lt_of_le h1 hS.1)).trans (hS.2.1 x h1 h2), hS.2.2⟩ hl
    rwa [← hP.1] at this)
theorem zp_objI (B : zC p s m args meth c9 cc nL own E b) {q : Nat} (hlink : Cond.methodLink own ix Lib.objectInit ∈ zAll) (hinst : Cond.instanceMethod Lib.objectInit ∈ zAll) (hcode : Cond.code Lib.objectInit ⟨#[0xb1]⟩ 1 none ∈ zAll) (d : decode cc pc = .ok (.invokespecial ix, 3)) (hf : 1 ≤ R.frames) (hlo : (st.map fun v => v.category).sum + 12 ≤ R.locals)
    (kk : zV p l e R s m args below meth c9 Q nL b P (pc + 3) L st k n) : zV p l e R s m args below meth c9 Q nL b P pc L (.ref q :: st) k n := fun H locs ls hP hS hl =>
  W.objInit B.1 B.2.1 B.2.2.2.1 (B.at hlink) (B.at hinst) (B.at hcode) (g := F0 m pc ls (.ref q :: st)) rfl (hl.1.trans B.2.2.1.symm) rfl d hf (by show 2 * 0 + _ + 12 ≤ _; omega) (kk H locs ls hP hS hl)
end ZP
