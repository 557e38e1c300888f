section
-- ===== PART A: goes FIRST, ahead of the names: the tables' words, and 'selects' of the private methods out of them =====
/-- a private method of a class that the tables say can be made, by its rows of tables_1 -/
def lw_okq (q : MethodName × Nat) : Prop := (q.1.cls ≠ "java/lang/invoke/MethodHandle" ∧ q.1.cls ≠ "java/lang/invoke/VarHandle") ∧ Cond.instantiable q.1.cls q.2 ∈ tables_1 ∧ Cond.privateMethod q.1 ∈ tables_1 ∧ Cond.instanceMethod q.1 ∈ tables_1
theorem lw_p0 : lw_okq (⟨"ToneGraph", "perform", "(II)I"⟩, 8) := ⟨⟨by decide +kernel, by decide +kernel⟩, List.mem_of_getElem? (i := 23) (by decide +kernel), List.mem_of_getElem? (i := 345) (by decide +kernel), List.mem_of_getElem? (i := 346) (by decide +kernel)⟩
theorem lw_p1 : lw_okq (⟨"ToneGraph", "lookAhead", "(II[I)V"⟩, 8) := ⟨⟨by decide +kernel, by decide +kernel⟩, List.mem_of_getElem? (i := 23) (by decide +kernel), List.mem_of_getElem? (i := 464) (by decide +kernel), List.mem_of_getElem? (i := 465) (by decide +kernel)⟩
theorem lw_p2 : lw_okq (⟨"java/lang/Throwable", "fillInStackTrace", "(I)Ljava/lang/Throwable;"⟩, 6) := ⟨⟨by decide +kernel, by decide +kernel⟩, List.mem_of_getElem? (i := 534) (by decide +kernel), List.mem_of_getElem? (i := 532) (by decide +kernel), List.mem_of_getElem? (i := 533) (by decide +kernel)⟩
theorem lw_p3 : lw_okq (⟨"ToneGraph", "refuseFullBoard", "()V"⟩, 8) := ⟨⟨by decide +kernel, by decide +kernel⟩, List.mem_of_getElem? (i := 23) (by decide +kernel), List.mem_of_getElem? (i := 564) (by decide +kernel), List.mem_of_getElem? (i := 565) (by decide +kernel)⟩
theorem lw_p4 : lw_okq (⟨"ToneGraph", "refuseNoNode", "(I)V"⟩, 8) := ⟨⟨by decide +kernel, by decide +kernel⟩, List.mem_of_getElem? (i := 23) (by decide +kernel), List.mem_of_getElem? (i := 649) (by decide +kernel), List.mem_of_getElem? (i := 650) (by decide +kernel)⟩
theorem lw_p5 : lw_okq (⟨"ToneGraph", "refuseNoWire", "(II)V"⟩, 8) := ⟨⟨by decide +kernel, by decide +kernel⟩, List.mem_of_getElem? (i := 23) (by decide +kernel), List.mem_of_getElem? (i := 760) (by decide +kernel), List.mem_of_getElem? (i := 761) (by decide +kernel)⟩
theorem lw_p6 : lw_okq (⟨"ToneGraph", "refuseFree", "(I)V"⟩, 8) := ⟨⟨by decide +kernel, by decide +kernel⟩, List.mem_of_getElem? (i := 23) (by decide +kernel), List.mem_of_getElem? (i := 863) (by decide +kernel), List.mem_of_getElem? (i := 864) (by decide +kernel)⟩
theorem lw_p7 : lw_okq (⟨"ToneGraph", "refuseSilence", "()V"⟩, 8) := ⟨⟨by decide +kernel, by decide +kernel⟩, List.mem_of_getElem? (i := 23) (by decide +kernel), List.mem_of_getElem? (i := 944) (by decide +kernel), List.mem_of_getElem? (i := 945) (by decide +kernel)⟩
theorem lw_p8 : lw_okq (⟨"ToneGraphModel", "lays", "()V"⟩, 26) := ⟨⟨by decide +kernel, by decide +kernel⟩, List.mem_of_getElem? (i := 958) (by decide +kernel), List.mem_of_getElem? (i := 964) (by decide +kernel), List.mem_of_getElem? (i := 965) (by decide +kernel)⟩
theorem lw_p9 : lw_okq (⟨"ToneGraphModel", "canCome", "(I)Z"⟩, 26) := ⟨⟨by decide +kernel, by decide +kernel⟩, List.mem_of_getElem? (i := 958) (by decide +kernel), List.mem_of_getElem? (i := 968) (by decide +kernel), List.mem_of_getElem? (i := 969) (by decide +kernel)⟩
theorem lw_p10 : lw_okq (⟨"ToneGraphModel", "isFull", "(Z)Z"⟩, 26) := ⟨⟨by decide +kernel, by decide +kernel⟩, List.mem_of_getElem? (i := 958) (by decide +kernel), List.mem_of_getElem? (i := 1063) (by decide +kernel), List.mem_of_getElem? (i := 1064) (by decide +kernel)⟩
theorem lw_p11 : lw_okq (⟨"ToneGraphModel", "adds", "(IIII)I"⟩, 26) := ⟨⟨by decide +kernel, by decide +kernel⟩, List.mem_of_getElem? (i := 958) (by decide +kernel), List.mem_of_getElem? (i := 1067) (by decide +kernel), List.mem_of_getElem? (i := 1068) (by decide +kernel)⟩
theorem lw_p12 : lw_okq (⟨"ToneGraphModel", "isNode", "(I)Z"⟩, 26) := ⟨⟨by decide +kernel, by decide +kernel⟩, List.mem_of_getElem? (i := 958) (by decide +kernel), List.mem_of_getElem? (i := 1087) (by decide +kernel), List.mem_of_getElem? (i := 1088) (by decide +kernel)⟩
theorem lw_p13 : lw_okq (⟨"ToneGraphModel", "wire", "(II)I"⟩, 26) := ⟨⟨by decide +kernel, by decide +kernel⟩, List.mem_of_getElem? (i := 958) (by decide +kernel), List.mem_of_getElem? (i := 1091) (by decide +kernel), List.mem_of_getElem? (i := 1092) (by decide +kernel)⟩
theorem lw_p14 : lw_okq (⟨"ToneGraphModel", "leads", "(II)Z"⟩, 26) := ⟨⟨by decide +kernel, by decide +kernel⟩, List.mem_of_getElem? (i := 958) (by decide +kernel), List.mem_of_getElem? (i := 1095) (by decide +kernel), List.mem_of_getElem? (i := 1096) (by decide +kernel)⟩
theorem lw_p15 : lw_okq (⟨"ToneGraphModel", "checked", "(Z)I"⟩, 26) := ⟨⟨by decide +kernel, by decide +kernel⟩, List.mem_of_getElem? (i := 958) (by decide +kernel), List.mem_of_getElem? (i := 1111) (by decide +kernel), List.mem_of_getElem? (i := 1112) (by decide +kernel)⟩
def lw_privs_1 : List (MethodName × Nat) := [(⟨"ToneGraph", "perform", "(II)I"⟩, 8), (⟨"ToneGraph", "lookAhead", "(II[I)V"⟩, 8), (⟨"java/lang/Throwable", "fillInStackTrace", "(I)Ljava/lang/Throwable;"⟩, 6), (⟨"ToneGraph", "refuseFullBoard", "()V"⟩, 8), (⟨"ToneGraph", "refuseNoNode", "(I)V"⟩, 8), (⟨"ToneGraph", "refuseNoWire", "(II)V"⟩, 8), (⟨"ToneGraph", "refuseFree", "(I)V"⟩, 8), (⟨"ToneGraph", "refuseSilence", "()V"⟩, 8), (⟨"ToneGraphModel", "lays", "()V"⟩, 26), (⟨"ToneGraphModel", "canCome", "(I)Z"⟩, 26), (⟨"ToneGraphModel", "isFull", "(Z)Z"⟩, 26), (⟨"ToneGraphModel", "adds", "(IIII)I"⟩, 26), (⟨"ToneGraphModel", "isNode", "(I)Z"⟩, 26), (⟨"ToneGraphModel", "wire", "(II)I"⟩, 26), (⟨"ToneGraphModel", "leads", "(II)Z"⟩, 26), (⟨"ToneGraphModel", "checked", "(Z)I"⟩, 26)]
theorem lw_r1 : ∀ q ∈ lw_privs_1, lw_okq q := List.forall_mem_cons.mpr ⟨lw_p0, List.forall_mem_cons.mpr ⟨lw_p1, List.forall_mem_cons.mpr ⟨lw_p2, List.forall_mem_cons.mpr ⟨lw_p3, List.forall_mem_cons.mpr ⟨lw_p4, List.forall_mem_cons.mpr ⟨lw_p5, List.forall_mem_cons.mpr ⟨lw_p6, List.forall_mem_cons.mpr ⟨lw_p7, List.forall_mem_cons.mpr ⟨lw_p8, List.forall_mem_cons.mpr ⟨lw_p9, List.forall_mem_cons.mpr ⟨lw_p10, List.forall_mem_cons.mpr ⟨lw_p11, List.forall_mem_cons.mpr ⟨lw_p12, List.forall_mem_cons.mpr ⟨lw_p13, List.forall_mem_cons.mpr ⟨lw_p14, List.forall_mem_cons.mpr ⟨lw_p15, fun _ h => absurd h List.not_mem_nil⟩⟩⟩⟩⟩⟩⟩⟩⟩⟩⟩⟩⟩⟩⟩⟩
theorem lw_p16 : lw_okq (⟨"ToneGraphModel", "plain", "(I)I"⟩, 26) := ⟨⟨by decide +kernel, by decide +kernel⟩, List.mem_of_getElem? (i := 958) (by decide +kernel), List.mem_of_getElem? (i := 1119) (by decide +kernel), List.mem_of_getElem? (i := 1120) (by decide +kernel)⟩
theorem lw_p17 : lw_okq (⟨"ToneGraphModel", "hasNoWire", "(II)Z"⟩, 26) := ⟨⟨by decide +kernel, by decide +kernel⟩, List.mem_of_getElem? (i := 958) (by decide +kernel), List.mem_of_getElem? (i := 1135) (by decide +kernel), List.mem_of_getElem? (i := 1136) (by decide +kernel)⟩
theorem lw_p18 : lw_okq (⟨"ToneGraphModel", "voiceFor", "()I"⟩, 26) := ⟨⟨by decide +kernel, by decide +kernel⟩, List.mem_of_getElem? (i := 958) (by decide +kernel), List.mem_of_getElem? (i := 1163) (by decide +kernel), List.mem_of_getElem? (i := 1164) (by decide +kernel)⟩
theorem lw_p19 : lw_okq (⟨"ToneGraphModel", "plays", "(I)Z"⟩, 26) := ⟨⟨by decide +kernel, by decide +kernel⟩, List.mem_of_getElem? (i := 958) (by decide +kernel), List.mem_of_getElem? (i := 1167) (by decide +kernel), List.mem_of_getElem? (i := 1168) (by decide +kernel)⟩
theorem lw_p20 : lw_okq (⟨"ToneGraphModel", "at", "(II)I"⟩, 26) := ⟨⟨by decide +kernel, by decide +kernel⟩, List.mem_of_getElem? (i := 958) (by decide +kernel), List.mem_of_getElem? (i := 1171) (by decide +kernel), List.mem_of_getElem? (i := 1172) (by decide +kernel)⟩
theorem lw_p21 : lw_okq (⟨"ToneGraphModel", "isReleased", "(I)Z"⟩, 26) := ⟨⟨by decide +kernel, by decide +kernel⟩, List.mem_of_getElem? (i := 958) (by decide +kernel), List.mem_of_getElem? (i := 1175) (by decide +kernel), List.mem_of_getElem? (i := 1176) (by decide +kernel)⟩
theorem lw_p22 : lw_okq (⟨"ToneGraphModel", "lay", "(III)V"⟩, 26) := ⟨⟨by decide +kernel, by decide +kernel⟩, List.mem_of_getElem? (i := 958) (by decide +kernel), List.mem_of_getElem? (i := 1179) (by decide +kernel), List.mem_of_getElem? (i := 1180) (by decide +kernel)⟩
theorem lw_p23 : lw_okq (⟨"ToneGraphModel", "isHeld", "(I)Z"⟩, 26) := ⟨⟨by decide +kernel, by decide +kernel⟩, List.mem_of_getElem? (i := 958) (by decide +kernel), List.mem_of_getElem? (i := 1187) (by decide +kernel), List.mem_of_getElem? (i := 1188) (by decide +kernel)⟩
theorem lw_p24 : lw_okq (⟨"ToneGraphModel", "releases", "(I)V"⟩, 26) := ⟨⟨by decide +kernel, by decide +kernel⟩, List.mem_of_getElem? (i := 958) (by decide +kernel), List.mem_of_getElem? (i := 1191) (by decide +kernel), List.mem_of_getElem? (i := 1192) (by decide +kernel)⟩
theorem lw_p25 : lw_okq (⟨"ToneGraphModel", "levelAt", "(I)I"⟩, 26) := ⟨⟨by decide +kernel, by decide +kernel⟩, List.mem_of_getElem? (i := 958) (by decide +kernel), List.mem_of_getElem? (i := 1195) (by decide +kernel), List.mem_of_getElem? (i := 1196) (by decide +kernel)⟩
theorem lw_p26 : lw_okq (⟨"ToneGraphModel", "isSilent", "(I)Z"⟩, 26) := ⟨⟨by decide +kernel, by decide +kernel⟩, List.mem_of_getElem? (i := 958) (by decide +kernel), List.mem_of_getElem? (i := 1218) (by decide +kernel), List.mem_of_getElem? (i := 1219) (by decide +kernel)⟩
theorem lw_p27 : lw_okq (⟨"ToneGraphModel", "sampled", "()I"⟩, 26) := ⟨⟨by decide +kernel, by decide +kernel⟩, List.mem_of_getElem? (i := 958) (by decide +kernel), List.mem_of_getElem? (i := 1238) (by decide +kernel), List.mem_of_getElem? (i := 1239) (by decide +kernel)⟩
theorem lw_p28 : lw_okq (⟨"ToneGraphModel", "samples", "()I"⟩, 26) := ⟨⟨by decide +kernel, by decide +kernel⟩, List.mem_of_getElem? (i := 958) (by decide +kernel), List.mem_of_getElem? (i := 1242) (by decide +kernel), List.mem_of_getElem? (i := 1243) (by decide +kernel)⟩
theorem lw_p29 : lw_okq (⟨"ToneGraphModel", "sounds", "(I)I"⟩, 26) := ⟨⟨by decide +kernel, by decide +kernel⟩, List.mem_of_getElem? (i := 958) (by decide +kernel), List.mem_of_getElem? (i := 1246) (by decide +kernel), List.mem_of_getElem? (i := 1247) (by decide +kernel)⟩
theorem lw_p30 : lw_okq (⟨"ToneGraphModel", "sung", "()I"⟩, 26) := ⟨⟨by decide +kernel, by decide +kernel⟩, List.mem_of_getElem? (i := 958) (by decide +kernel), List.mem_of_getElem? (i := 1250) (by decide +kernel), List.mem_of_getElem? (i := 1251) (by decide +kernel)⟩
theorem lw_p31 : lw_okq (⟨"ToneGraphModel", "sings", "(I)I"⟩, 26) := ⟨⟨by decide +kernel, by decide +kernel⟩, List.mem_of_getElem? (i := 958) (by decide +kernel), List.mem_of_getElem? (i := 1254) (by decide +kernel), List.mem_of_getElem? (i := 1255) (by decide +kernel)⟩
def lw_privs_2 : List (MethodName × Nat) := [(⟨"ToneGraphModel", "plain", "(I)I"⟩, 26), (⟨"ToneGraphModel", "hasNoWire", "(II)Z"⟩, 26), (⟨"ToneGraphModel", "voiceFor", "()I"⟩, 26), (⟨"ToneGraphModel", "plays", "(I)Z"⟩, 26), (⟨"ToneGraphModel", "at", "(II)I"⟩, 26), (⟨"ToneGraphModel", "isReleased", "(I)Z"⟩, 26), (⟨"ToneGraphModel", "lay", "(III)V"⟩, 26), (⟨"ToneGraphModel", "isHeld", "(I)Z"⟩, 26), (⟨"ToneGraphModel", "releases", "(I)V"⟩, 26), (⟨"ToneGraphModel", "levelAt", "(I)I"⟩, 26), (⟨"ToneGraphModel", "isSilent", "(I)Z"⟩, 26), (⟨"ToneGraphModel", "sampled", "()I"⟩, 26), (⟨"ToneGraphModel", "samples", "()I"⟩, 26), (⟨"ToneGraphModel", "sounds", "(I)I"⟩, 26), (⟨"ToneGraphModel", "sung", "()I"⟩, 26), (⟨"ToneGraphModel", "sings", "(I)I"⟩, 26)]
theorem lw_r2 : ∀ q ∈ lw_privs_2, lw_okq q := List.forall_mem_cons.mpr ⟨lw_p16, List.forall_mem_cons.mpr ⟨lw_p17, List.forall_mem_cons.mpr ⟨lw_p18, List.forall_mem_cons.mpr ⟨lw_p19, List.forall_mem_cons.mpr ⟨lw_p20, List.forall_mem_cons.mpr ⟨lw_p21, List.forall_mem_cons.mpr ⟨lw_p22, List.forall_mem_cons.mpr ⟨lw_p23, List.forall_mem_cons.mpr ⟨lw_p24, List.forall_mem_cons.mpr ⟨lw_p25, List.forall_mem_cons.mpr ⟨lw_p26, List.forall_mem_cons.mpr ⟨lw_p27, List.forall_mem_cons.mpr ⟨lw_p28, List.forall_mem_cons.mpr ⟨lw_p29, List.forall_mem_cons.mpr ⟨lw_p30, List.forall_mem_cons.mpr ⟨lw_p31, fun _ h => absurd h List.not_mem_nil⟩⟩⟩⟩⟩⟩⟩⟩⟩⟩⟩⟩⟩⟩⟩⟩
theorem lw_p32 : lw_okq (⟨"ToneGraphModel", "filtered", "(I)I"⟩, 26) := ⟨⟨by decide +kernel, by decide +kernel⟩, List.mem_of_getElem? (i := 958) (by decide +kernel), List.mem_of_getElem? (i := 1270) (by decide +kernel), List.mem_of_getElem? (i := 1271) (by decide +kernel)⟩
theorem lw_p33 : lw_okq (⟨"ToneGraphModel", "inputOf", "(I)I"⟩, 26) := ⟨⟨by decide +kernel, by decide +kernel⟩, List.mem_of_getElem? (i := 958) (by decide +kernel), List.mem_of_getElem? (i := 1274) (by decide +kernel), List.mem_of_getElem? (i := 1275) (by decide +kernel)⟩
theorem lw_p34 : lw_okq (⟨"ToneGraphModel", "foreseen", "(I)I"⟩, 26) := ⟨⟨by decide +kernel, by decide +kernel⟩, List.mem_of_getElem? (i := 958) (by decide +kernel), List.mem_of_getElem? (i := 1295) (by decide +kernel), List.mem_of_getElem? (i := 1296) (by decide +kernel)⟩
theorem lw_p35 : lw_okq (⟨"ToneGraphModel", "placeOf", "(I)I"⟩, 26) := ⟨⟨by decide +kernel, by decide +kernel⟩, List.mem_of_getElem? (i := 958) (by decide +kernel), List.mem_of_getElem? (i := 1335) (by decide +kernel), List.mem_of_getElem? (i := 1336) (by decide +kernel)⟩
def lw_privs_3 : List (MethodName × Nat) := [(⟨"ToneGraphModel", "filtered", "(I)I"⟩, 26), (⟨"ToneGraphModel", "inputOf", "(I)I"⟩, 26), (⟨"ToneGraphModel", "foreseen", "(I)I"⟩, 26), (⟨"ToneGraphModel", "placeOf", "(I)I"⟩, 26)]
theorem lw_r3 : ∀ q ∈ lw_privs_3, lw_okq q := List.forall_mem_cons.mpr ⟨lw_p32, List.forall_mem_cons.mpr ⟨lw_p33, List.forall_mem_cons.mpr ⟨lw_p34, List.forall_mem_cons.mpr ⟨lw_p35, fun _ h => absurd h List.not_mem_nil⟩⟩⟩⟩
def lw_privs : List (MethodName × Nat) := lw_privs_1 ++ (lw_privs_2 ++ (lw_privs_3))
def lw_tbl : List Cond := k2_sels lw_privs ++ tables_1
theorem lw_privs_ok : ∀ q ∈ lw_privs, lw_okq q := by
  show ∀ q ∈ lw_privs_1 ++ (lw_privs_2 ++ (lw_privs_3)), lw_okq q
  exact List.forall_mem_append.mpr ⟨lw_r1, List.forall_mem_append.mpr ⟨lw_r2, lw_r3⟩⟩
/-- the streams that the claim lets the run draw from -/
abbrev lw_cs : List Choice := [Jvm.Choice.named "NaN.bits"]
theorem lw_bits : nanBits ∈ lw_cs := by first | decide | exact List.mem_cons_self | simp [lw_cs, nanBits]
end
section
/-! an array class over an array class stands: the word that va_mna of the printed names asks for, which the kit's rows don't have -/
def va_AOA (t : FieldType) (U : State) : Prop := (Cond.arrayOver (.array t)).before #[] U = true
theorem va_AOA.of {t : FieldType} {A : Array Value} {U : State} (h : (Cond.arrayOver (.array t)).before A U = true) : va_AOA t U := h
theorem va_AOA.use {t : FieldType} {A : Array Value} {U : State} (h : va_AOA t U) : (Cond.arrayOver (.array t)).before A U = true := h
theorem va_AOA.moved {t : FieldType} {u U : State} (hvm : u.vm.Alike U.vm) (h : va_AOA t u) : va_AOA t U := by
  unfold va_AOA Cond.before Cond.holds at h ⊢
  simp only [Cond.value, beq_iff_eq] at h ⊢
  rw [hvm.findClass]
  cases hc : u.vm.findClass (FieldType.array t).toString with
  | none => rw [hc] at h; simp at h
  | some comp =>
    rw [hc] at h
    simp only [Option.bind_some] at h ⊢
    have e0 : U.vm.bare = u.vm.bare := by first | exact hvm.bare_eq | exact hvm.bare_eq.symm
    have hi : (U.vm.classes.findIdx? fun (x : Class) => match x.kind with | .array component _ => component == comp | _ => false) = (u.vm.classes.findIdx? fun (x : Class) => match x.kind with | .array component _ => component == comp | _ => false) :=
      (va_idx_bare U.vm comp).symm.trans ((congrArg (fun v : Vm => v.classes.findIdx? fun (x : Class) => match x.kind with | .array component _ => component == comp | _ => false) e0).trans (va_idx_bare u.vm comp))
    refine (congrArg (fun o : Option Nat => (o.bind (fun c => (U.vm.classes[c]?).map fun (k : Class) => match k.kind with | .array _ ty => decide (ty = FieldType.array t) && decide (U.vm.findClass ("[" ++ (FieldType.array t).toString) = some c) | _ => false))) hi).trans ?_
    cases hf : u.vm.classes.findIdx? fun (x : Class) => match x.kind with | .array component _ => component == comp | _ => false with
    | none =>
      have h' := (congrArg (fun o : Option Nat => (o.bind (fun c => (u.vm.classes[c]?).map fun (k : Class) => match k.kind with | .array _ ty => decide (ty = FieldType.array t) && decide (u.vm.findClass ("[" ++ (FieldType.array t).toString) = some c) | _ => false))) hf).symm.trans h
      simp at h'
    | some c =>
      have h' := (congrArg (fun o : Option Nat => (o.bind (fun c => (u.vm.classes[c]?).map fun (k : Class) => match k.kind with | .array _ ty => decide (ty = FieldType.array t) && decide (u.vm.findClass ("[" ++ (FieldType.array t).toString) = some c) | _ => false))) hf).symm.trans h
      simp only [Option.bind_some, Option.map_eq_some_iff] at h' ⊢
      obtain ⟨k, hk, hb⟩ := h'
      obtain ⟨k', hk', he⟩ := hvm.2.2 _ _ hk
      refine ⟨k', hk', ?_⟩
      have e1 : k'.kind = k.kind := by rw [he]
      rw [e1, hvm.findClass]
      exact hb
end
section
/-! ===== BEGIN words of one list among another's, by their places ===== -/
theorem goodIn_r {big : List Cond} (ws : List Cond) (ps : List Nat) (hp : ws = ps.filterMap (fun i => big[i]?)) (h : ws.all goodWord = true) : GoodIn big ws := by
  intro w hw
  have h1 := List.all_eq_true.mp h w hw
  rw [hp] at hw
  obtain ⟨i, -, hi⟩ := List.mem_filterMap.mp hw
  have hm : w ∈ big := by first | exact List.mem_of_getElem? hi | exact List.getElem?_mem hi
  exact ⟨hm, good_of_word h1⟩
theorem goodIn_app {big a b : List Cond} (ha : GoodIn big a) (hb : GoodIn big b) : GoodIn big (a ++ b) := fun w h => (List.mem_append.mp h).elim (ha w) (hb w)
theorem goodIn_ca {big a b : List Cond} {c : Cond} (ha : GoodIn big (c :: a)) (hb : GoodIn big b) : GoodIn big (c :: (a ++ b)) := fun w h => (List.mem_cons.mp h).elim (fun e => ha w (List.mem_cons.mpr (Or.inl e))) (fun h => (List.mem_append.mp h).elim (fun h => ha w (List.mem_cons.mpr (Or.inr h))) (hb w))
theorem goodIn_sub {big ws : List Cond} (hm : ∀ w ∈ ws, w ∈ big) (h : ws.all goodWord = true) : GoodIn big ws := fun w hw => ⟨hm w hw, good_of_word (List.all_eq_true.mp h w hw)⟩
/-! ===== END ===== -/

/-! ===== BEGIN new T[n][m]: the outer array a place, the inner ones among the pooled ===== -/
/-- f, but v at every address of l -/
def vr_up {α : Type} (f : Nat → α) (l : List Nat) (v : α) : Nat → α := fun a => if a ∈ l then v else f a
theorem vr_up_in {α : Type} {f : Nat → α} {l : List Nat} {v : α} {a : Nat} (h : a ∈ l) : vr_up f l v a = v := if_pos h
theorem vr_up_ne {α : Type} {f : Nat → α} {l : List Nat} {v : α} {a : Nat} (h : a ∉ l) : vr_up f l v a = f a := if_neg h
theorem vr_rows {L l : List Nat} {f : Nat → va_E} {e : va_E} (h : ∀ a, a ∈ l → a ∉ L) : va_pl L f ++ l.map (fun a => (a, e)) = va_pl (L ++ l) (vr_up f l e) := by
  unfold va_pl
  rw [List.map_append]
  congr 1
  · apply List.map_congr_left
    intro a ha
    rw [vr_up_ne (fun q => h a q ha)]
  · apply List.map_congr_left
    intro a ha
    rw [vr_up_in ha]
theorem vr_lay {X rows : va_W} {x : Nat × va_E} {pl : va_W} {D : va_G} {cl : List vw_C} {H : Heap} (hP : va_P D cl (((X ++ pl) ++ [x]) ++ rows) H) : va_P D cl ((X ++ [x]) ++ (pl ++ rows)) H := by
  rw [List.append_assoc (X ++ pl)] at hP
  have h := va_P.swap hP
  rw [← List.append_assoc X] at h
  have h2 := va_P.swap h
  rw [List.append_assoc (X ++ [x])] at h2
  exact h2
theorem vr_layD {X rows : va_W} {x : Nat × va_E} {pl : va_W} {A : Nat → Prop} (hD : va_D A (((X ++ pl) ++ [x]) ++ rows)) : va_D A ((X ++ [x]) ++ (pl ++ rows)) := by
  rw [List.append_assoc (X ++ pl)] at hD
  have h := va_D.swap hD
  rw [← List.append_assoc X] at h
  have h2 := va_D.swap h
  rw [List.append_assoc (X ++ [x])] at h2
  exact h2
theorem vr_outer (c : ClassId) (N h0 : Nat) : ∀ i : Nat, Jvm.Free.Multi.outerC c N h0 i = arrV c N (fun j => va_rf (if j < i then some (h0 + 1 + j) else none))
  | 0 => by
    show ({ cls := c, slots := Array.replicate N .null, vm := .none } : Cell) = _
    rw [arrV_new]
    refine congrArg (arrV c N) (funext fun j => ?_)
    simp [va_rf]
  | i + 1 => by
    show (Jvm.Free.Multi.outerC c N h0 i).setSlot i (.ref (h0 + 1 + i)) = _
    rw [vr_outer c N h0 i, arrV_store]
    refine congrArg (arrV c N) (funext fun j => ?_)
    by_cases e : j = i
    · subst e
      simp [updV, va_rf]
    · by_cases h : j < i
      · simp [updV, e, h, Nat.lt_succ_of_lt h]
      · simp [updV, e, h, show ¬ j < i + 1 by omega]
section VGM
variable {p : Program} {l : Launch} {e : Env} {R : Room} {s : State} {m : MethodId} {args : Array Value} {below : List Frame} {meth : Method} {c : Code} {H : Heap} {locs : List Loc} {cells slots : Nat} {Q : State → Prop}
variable {cc : ByteArray} {pc : Nat} {ls : Array Slot} {rest : List Value} {D : va_G} {cl : List vw_C} {A : Nat → Prop} {a : Nat} {tys : List (ClassId × FieldType)} {ws : va_W} {H0 : Heap}
theorem va_mna {X : va_W} {L : List Nat} {f : Nat → va_E} {cc : ByteArray} (hexec : p.tables.exec = Jvm.exec) (hb : c.code = cc) {own : String} {index : Nat} {ty : FieldType} {cy : ClassId} (hown : s.vm.findClass own = some m.cls) (hclink : (Cond.classLink own index ("[" ++ (FieldType.array ty).toString)).before args s = true) (hover : va_AOA ty s) (harr : (Cond.arrayClass ty).before args s = true) (hcy : s.vm.findClass (FieldType.array ty).toString = some cy)
    (hK : va_K D cl tys s) (hP : va_P D cl (X ++ va_pl L f) H) (hD : va_D A (X ++ va_pl L f)) (hS : va_S A H0 H locs) (hA : ∀ q, H0.size ≤ q → A q) {n k : Int32} {N' K' : Nat} {z : vp_A} (hn : ¬ n < 0) (hk : ¬ k < 0) (hN : n.toNatClampNeg = N') (hM : k.toNatClampNeg = K')
    (hb1 : N' * 4 ≤ 536870912) (hb2 : K' * componentBytes ty ≤ 536870912) (hb3 : K' ≤ 536870912) (hdf : fits ty (defaultValue ty) = true) (hdd : (defaultValue ty).isDefault = true) (hcells : cells + (1 + N') ≤ R.cells) (hslots : slots + (N' + N' * K') ≤ R.slots) (hz : ∀ c : ClassId, Jvm.Free.Multi.innerC c K' (defaultValue ty) = vp_cell c z) (hdg : decode cc pc = .ok (.multianewarray index 2, 4))
    (kk : ∀ (q : Nat) (r : Nat → Nat) (cA : ClassId) (H1 : Heap), (∀ i j : Nat, i < N' → j < N' → r i = r j → i = j) → (∀ i : Nat, i < N' → r i ∉ L) → va_K D cl (tys ++ [(cA, .array ty)]) s →
      va_P D cl ((X ++ [(q, .inl (cA, N', .inr (.inr (.inr (.inr (fun i => if i < N' then some (r i) else none))))))]) ++ va_pl (L ++ (List.range N').map r) (vr_up f ((List.range N').map r) (.inl (cy, z)))) H1 → va_D A ((X ++ [(q, .inl (cA, N', .inr (.inr (.inr (.inr (fun i => if i < N' then some (r i) else none))))))]) ++ va_pl (L ++ (List.range N').map r) (vr_up f ((List.range N').map r) (.inl (cy, z)))) → va_S A H0 H1 locs →
      W p l e R s m args below meth c H1 locs (cells + 1 + N') (slots + N' + N' * K') Q (F0 m (pc + 4) ls (.ref q :: rest))) : W p l e R s m args below meth c H locs cells slots Q (F0 m pc ls (.int k :: .int n :: rest)) := by
  subst hN
  subst hM
  intro T hT Xs
  obtain ⟨vm₁, cA, comp, -, fA, fC, hO, -, X', step⟩ := Xs.multianewarray2F hexec hown hclink (va_AOA.use hover) harr (g := F0 m pc ls (.int k :: .int n :: rest)) rfl (by rw [hb]; exact hdg) rfl hn hk hb1 hb2 hb3 hdf hdd hcells hslots
  have ec : some cy = some comp := hcy.symm.trans fC
  cases ec
  generalize hF : Jvm.Free.Multi.fill (T.setVm vm₁) cA cy n.toNatClampNeg k.toNatClampNeg (defaultValue ty) n.toNatClampNeg = F at X' step
  have hTh : (T.setVm vm₁).heap = H := hT
  obtain ⟨f1, f2, -, -⟩ := Jvm.Free.Multi.fill_facts (T.setVm vm₁) cA cy n.toNatClampNeg k.toNatClampNeg (defaultValue ty) n.toNatClampNeg
  rw [hF, hTh] at f1 f2
  have hold : ∀ x : Nat, x < H.size → F.heap[x]? = H[x]? := fun x hx => by
    have := Jvm.Free.Multi.fill_old (T.setVm vm₁) cA cy n.toNatClampNeg k.toNatClampNeg (defaultValue ty) (a := x) (by rw [hTh]; exact hx) n.toNatClampNeg
    rw [hF, hTh] at this
    exact this
  have hrow : ∀ j : Nat, j < n.toNatClampNeg → F.heap[H.size + 1 + j]? = some (vp_cell cy z) := fun j hj => by
    have := Jvm.Free.Multi.fill_inner (T.setVm vm₁) cA cy n.toNatClampNeg k.toNatClampNeg (defaultValue ty) n.toNatClampNeg j hj
    rw [hF, hTh, hz] at this
    exact this
  have hout : Jvm.Free.Multi.outerC cA n.toNatClampNeg H.size n.toNatClampNeg = vp_cell cA (n.toNatClampNeg, .inr (.inr (.inr (.inr (fun i => if i < n.toNatClampNeg then some (H.size + 1 + i) else none))))) := by
    rw [vp_cell_q]
    exact vr_outer cA n.toNatClampNeg H.size n.toNatClampNeg
  rw [hout] at f2
  have hlt : ∀ a, a ∈ L → a < H.size := fun a ha => by
    obtain ⟨k9, hk9⟩ := va_pl_get (X := X) (f := f) ha
    exact (hP k9 _ hk9).lt
  have hnl : ∀ i : Nat, i < n.toNatClampNeg → H.size + 1 + i ∉ L := fun i _ h => by
    have := hlt _ h
    omega
  have hnm : ∀ a, a ∈ (List.range n.toNatClampNeg).map (fun i => H.size + 1 + i) → a ∉ L := fun a ha h => by
    obtain ⟨i, -, rfl⟩ := List.mem_map.mp ha
    have := hlt _ h
    omega
  have hP0 : va_P D cl (X ++ va_pl L f) F.heap := hP.kept (fun k9 x hx => hold x.1 ((hP k9 x hx).lt))
  have hP1 : va_P D cl ((X ++ va_pl L f) ++ [(H.size, .inl (cA, n.toNatClampNeg, .inr (.inr (.inr (.inr (fun i => if i < n.toNatClampNeg then some (H.size + 1 + i) else none))))))]) F.heap := hP0.app (fun k9 x hx => by
    have h0 : k9 < 1 := (List.getElem?_eq_some_iff.mp hx).1
    rw [show k9 = 0 by omega] at hx
    cases hx
    exact f2)
  have hP2 : va_P D cl (((X ++ va_pl L f) ++ [(H.size, .inl (cA, n.toNatClampNeg, .inr (.inr (.inr (.inr (fun i => if i < n.toNatClampNeg then some (H.size + 1 + i) else none))))))]) ++ ((List.range n.toNatClampNeg).map (fun i => H.size + 1 + i)).map (fun a => (a, .inl (cy, z)))) F.heap := hP1.app (fun k9 x hx => by
    obtain ⟨a, ha, rfl⟩ := List.mem_map.mp (List.mem_of_getElem? hx)
    obtain ⟨i, hi, rfl⟩ := List.mem_map.mp ha
    exact hrow i (List.mem_range.mp hi))
  have hD2 : va_D A (((X ++ va_pl L f) ++ [(H.size, .inl (cA, n.toNatClampNeg, .inr (.inr (.inr (.inr (fun i => if i < n.toNatClampNeg then some (H.size + 1 + i) else none))))))]) ++ ((List.range n.toNatClampNeg).map (fun i => H.size + 1 + i)).map (fun a => (a, .inl (cy, z)))) := by
    have hD1 := hD.push (e := .inl (cA, n.toNatClampNeg, .inr (.inr (.inr (.inr (fun i => if i < n.toNatClampNeg then some (H.size + 1 + i) else none)))))) hP rfl (hA _ hS.1)
    generalize hW1 : (X ++ va_pl L f) ++ [(H.size, .inl (cA, n.toNatClampNeg, .inr (.inr (.inr (.inr (fun i => if i < n.toNatClampNeg then some (H.size + 1 + i) else none))))))] = W1 at hD1 hP1 ⊢
    have hle : ∀ (k9 : Nat) (x : Nat × va_E), W1[k9]? = some x → x.1 ≤ H.size := fun k9 x hx => by
      rw [← hW1] at hx
      by_cases hl : k9 < (X ++ va_pl L f).length
      · rw [List.getElem?_append_left hl] at hx
        exact Nat.le_of_lt ((hP k9 x hx).lt)
      · rw [List.getElem?_append_right (by omega)] at hx
        have h0 : k9 - (X ++ va_pl L f).length < 1 := (List.getElem?_eq_some_iff.mp hx).1
        rw [show k9 - (X ++ va_pl L f).length = 0 by omega] at hx
        cases hx
        exact Nat.le_refl _
    have hr : ∀ (k9 : Nat) (x : Nat × va_E), (((List.range n.toNatClampNeg).map (fun i => H.size + 1 + i)).map (fun a => ((a, .inl (cy, z)) : Nat × va_E)))[k9]? = some x → x.1 = H.size + 1 + k9 := fun k9 x hx => by
      rw [List.getElem?_map, List.getElem?_map] at hx
      by_cases h9 : k9 < n.toNatClampNeg
      · rw [List.getElem?_range h9] at hx
        cases hx
        rfl
      · have hn0 : (List.range n.toNatClampNeg)[k9]? = none := List.getElem?_eq_none (by rw [List.length_range]; omega)
        rw [hn0] at hx
        cases hx
    refine ⟨fun i j x y hi hj hxy => ?_, fun k9 x hx => ?_⟩
    · by_cases h1 : i < W1.length <;> by_cases h2 : j < W1.length
      · rw [List.getElem?_append_left h1] at hi
        rw [List.getElem?_append_left h2] at hj
        exact hD1.1 i j x y hi hj hxy
      · rw [List.getElem?_append_left h1] at hi
        rw [List.getElem?_append_right (by omega)] at hj
        have := hle _ _ hi
        have := hr _ _ hj
        omega
      · rw [List.getElem?_append_right (by omega)] at hi
        rw [List.getElem?_append_left h2] at hj
        have := hle _ _ hj
        have := hr _ _ hi
        omega
      · rw [List.getElem?_append_right (by omega)] at hi hj
        have := hr _ _ hi
        have := hr _ _ hj
        omega
    · by_cases h1 : k9 < W1.length
      · rw [List.getElem?_append_left h1] at hx
        exact hD1.2 k9 x hx
      · rw [List.getElem?_append_right (by omega)] at hx
        have := hr _ _ hx
        exact hA _ (by have := hS.1; omega)
  have hAr : ArrOfT s cA (.array ty) := fun N9 z9 => by
    obtain ⟨-, k9, hk9, cm9, hkk9⟩ := (hO 0 0 0).1
    exact ⟨(fun q hq => by cases hq), k9, hk9, cm9, hkk9⟩
  have hK2 : va_K D cl (tys ++ [(cA, .array ty)]) s := ⟨hK.1, fun k9 x hx => by
    by_cases hl : k9 < tys.length
    · rw [List.getElem?_append_left hl] at hx
      exact hK.2 k9 x hx
    · rw [List.getElem?_append_right (by omega)] at hx
      have h0 : k9 - tys.length < 1 := (List.getElem?_eq_some_iff.mp hx).1
      rw [show k9 - tys.length = 0 by omega] at hx
      cases hx
      exact ⟨hAr, fA⟩⟩
  obtain ⟨t, a1, b1⟩ := kk H.size (fun i => H.size + 1 + i) cA F.heap (fun i j _ _ h => by have h9 : H.size + 1 + i = H.size + 1 + j := h; omega) hnl hK2 (by rw [← vr_rows hnm]; exact vr_lay hP2) (by rw [← vr_rows hnm]; exact vr_layD hD2) ⟨by rw [f1]; have := hS.1; omega, fun x h1 h2 => (hold x (Nat.lt_of_lt_of_le h1 hS.1)).trans (hS.2.1 x h1 h2), hS.2.2⟩ F rfl X'
  refine ⟨t, step t ?_, b1⟩
  have e : T.heap.size = H.size := by rw [hT]
  rw [e]
  exact a1
end VGM
/-! ===== END ===== -/

/-! ===== BEGIN exceptions that leave a method, and their catching by the caller (launches without stack traces) ===== -/
section VXA
/-! The laws vx_back, vx_callV, vx_callS, vx_callSW, vx_throw0, vx_throwS follow proofs of the library, with one case more: JvmDerived/Free/Laws.lean (Back.of_free), Shelf42/LK1.lean (callV, callS), Shelf/KitTraced.lean (throwNew0V, throwNewS). -/
/-- where a method has thrown q: the class by its name, the cell, what was written, the world -/
def vx_T (XC : String → State → State → Prop) (st : State) (q : Addr) (t : State) (mc ms : Nat) (free : Addr → Prop) : Prop :=
  ∃ (E : String) (ce : Cell) (L : List Loc), XC E st t ∧ t.heap[q]? = some ce ∧ ce.vm = .none ∧ st.vm.findClass E = some ce.cls ∧ st.WarmedH t.vm ∧ st.sameButNew ({ t with vm := st.vm } : State) L mc ms ∧ ∀ z ∈ L, free z.base
def vx_Q (Qc : Array Value → State → Outcome → State → Prop) (XC : String → State → State → Prop) (mc ms : Nat) (free : Addr → Prop) : Array Value → State → Outcome → State → Prop := fun a st o t =>
  (Qc a st o t ∧ ∃ L, FrameEnd st o t L mc ms ∧ ∀ q ∈ L, free q.base) ∨ ∃ q, o = .threw q ∧ vx_T XC st q t mc ms free
/-- a callee that returns or throws -/
def vx_Met (l : Launch) (y : MethodName) (ws : List Cond) (rm : Room) (Pc : Array Value → State → Prop) (Qc : Array Value → State → Outcome → State → Prop) (XC : String → State → State → Prop) (mc ms : Nat) (free : Addr → Prop) : Prop :=
  MetFree l y (headSpec ws rm) Pc (fun _ _ _ _ _ => True) (vx_Q Qc XC mc ms free)
def vx_Post (XC : String → State → State → Prop) (mc ms : Nat) (free : Addr → Prop) : Pt → Array Value → Addr → Pt → Prop := fun A a q B =>
  ∃ (g : JFrame) (mk : MethodId) (t : State) (L : List Loc) (E : String) (ce : Cell), B.U.heap = t.heap ∧ B.U.vm = t.vm ∧ XC E (A.U.calling g mk a) t ∧ t.heap[q]? = some ce ∧ ce.vm = .none ∧ A.U.vm.findClass E = some ce.cls ∧ B.locs = A.locs ++ L ∧ (∀ z ∈ L, free z.base) ∧ B.cells = A.cells + mc ∧ B.slots = A.slots + ms
def vx_Back (l : Launch) (R : Room) (p : Program) (e : Env) (below : List Frame) (s : State) (sargs : Array Value) (y : MethodName) (len W9 : Nat)
    (Pre : Pt → Array Value → Prop) (Post : Pt → Array Value → Option Value → Pt → Prop) (PostX : Pt → Array Value → Addr → Pt → Prop) : Prop :=
  ∀ (m : MethodId) (meth : Method) (c : Code) (A : Pt) (g : JFrame) (ig : Instr) (mk : MethodId) (a : Array Value),
    Stand p l e R s m sargs below meth c A.U A.locs A.cells A.slots → g.method = m → g.locals.size = c.maxLocals → decode c.code g.pc = .ok (ig, len) →
    2 * g.monitorRoom + (g.stack.map fun v => v.category).sum ≤ W9 → A.U.methodNamed? y = some mk → Pre A a →
    (∃ (v : Option Value) (B : Pt), Stand p l e R s m sargs below meth c B.U B.locs B.cells B.slots ∧ Post A a v B ∧
      Steps p.tables e below (doInvoke e (A.U.setTop g) [] mk a).1 (B.U.setTop { g with pc := g.pc + len, stack := v.toList ++ g.stack })) ∨
    (∃ (q : Addr) (B : Pt), Stand p l e R s m sargs below meth c B.U B.locs B.cells B.slots ∧ PostX A a q B ∧
      Steps p.tables e below (doInvoke e (A.U.setTop g) [] mk a).1 ((B.U.setTop g).pushFrame (.throwing q)))
section Payer
variable {l : Launch} {R : Room} {p : Program} {e : Env} {below : List Frame} {s : State} {sargs : Array Value} {y : MethodName} {len W9 : Nat}
theorem vx_back {ws : List Cond} {rm : Room} {Pc : Array Value → State → Prop} {Qc : Array Value → State → Outcome → State → Prop} {XC : String → State → State → Prop} {mc ms : Nat} {free : Addr → Prop} {bytes : ByteArray} {maxL : Nat} {ret : Option FieldType}
    (hM : vx_Met l y ws rm Pc Qc XC mc ms free) (hblind : FrameBlind Pc) (hrc : rm.cells = mc) (hrs : rm.slots = ms)
    (hframes : rm.frames + 1 ≤ R.frames) (hlocals : W9 + (maxL + 11) + rm.locals ≤ R.locals)
    (hws : ∀ w ∈ ws, ∀ a' U, s.WarmedH U.vm → w.before a' U = true) (hcode : Cond.code y bytes maxL ret ∈ ws) (hinit : ∀ a' U, s.WarmedH U.vm → (Cond.initialized y.cls).before a' U = true) :
    vx_Back l R p e below s sargs y len W9 (PreOf R mc ms Pc) (PostOf Qc mc ms free) (vx_Post XC mc ms free) := by
  intro m meth c A g ig mk a X hg hsize hdg hW hn hp
  have h1 : (headSpec ws rm).pre.before a A.U = true := atoms_intro fun w hw => hws w hw _ _ X.warmed
  have h2 : (Cond.code y bytes maxL ret).before a A.U = true := hws _ hcode _ _ X.warmed
  have h3 : (Cond.initialized y.cls).before a A.U = true := hinit _ _ X.warmed
  have h4 : A.cells + (headSpec ws rm).room.cells ≤ R.cells := by rw [show (headSpec ws rm).room.cells = mc from hrc]; exact hp.1
  have h5 : A.slots + (headSpec ws rm).room.slots ≤ R.slots := by rw [show (headSpec ws rm).room.slots = ms from hrs]; exact hp.2.1
  have hPc : Pc a (A.U.calling g mk a) := hblind _ _ _ _ hp.2.2
  obtain ⟨U, Ls, c0, s0⟩ := A
  dsimp only [Pt.U, Pt.locs, Pt.cells, Pt.slots] at h1 h2 h3 h4 h5 X hn hPc ⊢
  obtain ⟨methY, cY, hmY, hcY, -, hlY, -, -, -, -⟩ := Cond.code_spec hn h2
  obtain ⟨kY, hkY, -⟩ := className_of_methodNamed hn
  have hinitY : kY.init = .initialized := Cond.initialized_spec (findClass_of_methodNamed hn) hkY h3
  have h : At U g.method c below := by rw [hg]; exact X.here
  have hlocals9 : W9 + (maxL + 11) + (headSpec ws rm).room.locals ≤ R.locals := hlocals
  have happ : (headSpec ws rm).appliesLoose y e.platform (U.calling g mk a) = true :=
    Spec.appliesLoose_calling (g := g) h hdg hn hkY hinitY
      (X.room_calling (g := g) (R' := (headSpec ws rm).room) hsize hmY hcY hframes (by rw [hlY]; omega) h4 h5) h1
  obtain ⟨mid, hmid⟩ := h.above
  have hfr : (U.setTop g).frames = (.java g :: mid) ++ below := by rw [State.frames_setTop' g h.top, hmid]; rfl
  obtain ⟨o, s₂, hsteps, -, hend, hq⟩ := Steps.callFree hM p X.admits X.cas X.clock (acts := []) hfr happ hPc trivial
  have hq' : vx_Q Qc XC mc ms free a (U.calling g mk a) o s₂ := hq
  rw [State.frames_setTop' g h.top] at hend
  obtain ⟨g₀, hg0⟩ := Option.isSome_iff_exists.mp h.top
  obtain ⟨r, hr⟩ := State.topJava?_eq_some.mp hg0
  have hr' : (({ U with heap := s₂.heap, slotsUsed := s₂.slotsUsed } : State).setVm s₂.vm).frames = .java g₀ :: r := hr
  rcases hq' with ⟨hqc, L, hfe, hL⟩ | ⟨q, rfl, E, ce, L, hx, hce, hcv, hcl, hW₂, hsm, hL⟩
  · obtain ⟨⟨v, rfl⟩, hW₂, e2, q2, q3, q4, q5, q6⟩ := id hfe
    have e3 : s₂ = ({ (U.calling g mk a).setFrames s₂.frames with heap := s₂.heap, slotsUsed := s₂.slotsUsed } : State).setVm s₂.vm := by
      have : s₂ = ({ s₂ with vm := (U.calling g mk a).vm } : State).setVm s₂.vm := rfl
      rw [e2] at this
      exact this
    obtain ⟨c₂, i₂, len₂, hc₂, hd₂, hf₂⟩ := hend
    have hW' : U.WarmedH s₂.vm := hW₂
    have hcc : c₂ = c := by
      have h1 : s₂.code? g.method = U.code? g.method := by
        rw [State.code?_eq, State.code?_eq, hW'.alike.method?]
      exact Option.some.inj (hc₂.symm.trans (h1.trans h.code))
    subst hcc
    have hlen : len₂ = len := by rw [hdg] at hd₂; cases hd₂; rfl
    subst hlen
    have hs₂ : s₂ = (({ U with heap := s₂.heap, slotsUsed := s₂.slotsUsed } : State).setVm s₂.vm).setTop { g with pc := g.pc + len₂, stack := v.toList ++ g.stack } := by
      refine e3.trans ?_
      rw [hf₂, State.calling_eq h.top, State.setFrames_setFrames, State.setTop_of_frames _ hr', hr]
      rfl
    have hsame : U.sameButNew ({ U with heap := s₂.heap, slotsUsed := s₂.slotsUsed } : State) L mc ms := by
      refine ⟨?_, q2, q3, q4, q5, q6⟩
      obtain ⟨t, ht, -⟩ := State.frames_cons hr
      show ({ U with heap := s₂.heap, slotsUsed := s₂.slotsUsed } : State) = { U.setFrames U.frames with heap := s₂.heap, slotsUsed := s₂.slotsUsed }
      rw [State.setFrames_self ht]
    subst hg
    refine Or.inl ⟨v, ⟨(({ U with heap := s₂.heap, slotsUsed := s₂.slotsUsed } : State).setVm s₂.vm), Ls ++ L, c0 + mc, s0 + ms⟩,
      ⟨X.admits, X.cas, X.clock, X.frames, X.room, X.hears, X.method, X.code, (X.here.setHeapUsed s₂.heap s₂.slotsUsed).setVm hW'.alike, X.tail, State.WarmedH.trans X.warmed hW', X.limits, X.bytes, X.same.trans (hsame.setVm s.vm)⟩,
      ⟨g, mk, s₂, L, rfl, rfl, hqc, rfl, hL, rfl, rfl⟩, ?_⟩
    show Steps p.tables e below _ ((({ U with heap := s₂.heap, slotsUsed := s₂.slotsUsed } : State).setVm s₂.vm).setTop { g with pc := g.pc + len₂, stack := v.toList ++ g.stack })
    rw [← hs₂]
    exact hsteps
  · obtain ⟨e2, q2, q3, q4, q5, q6⟩ := id hsm
    have e3 : s₂ = ({ (U.calling g mk a).setFrames s₂.frames with heap := s₂.heap, slotsUsed := s₂.slotsUsed } : State).setVm s₂.vm := by
      have : s₂ = ({ s₂ with vm := (U.calling g mk a).vm } : State).setVm s₂.vm := rfl
      rw [e2] at this
      exact this
    have hf₂ : s₂.frames = .throwing q :: .java g :: U.frames.tail := hend
    have hW' : U.WarmedH s₂.vm := hW₂
    have hs₂ : s₂ = ((({ U with heap := s₂.heap, slotsUsed := s₂.slotsUsed } : State).setVm s₂.vm).setTop g).pushFrame (.throwing q) := by
      refine e3.trans ?_
      rw [hf₂, State.calling_eq h.top, State.setFrames_setFrames, State.pushFrame, State.frames_setTop _ hr', State.setTop_of_frames _ hr', State.setFrames_setFrames, hr]
      rfl
    have hsame : U.sameButNew ({ U with heap := s₂.heap, slotsUsed := s₂.slotsUsed } : State) L mc ms := by
      refine ⟨?_, q2, q3, q4, q5, q6⟩
      obtain ⟨t, ht, -⟩ := State.frames_cons hr
      show ({ U with heap := s₂.heap, slotsUsed := s₂.slotsUsed } : State) = { U.setFrames U.frames with heap := s₂.heap, slotsUsed := s₂.slotsUsed }
      rw [State.setFrames_self ht]
    subst hg
    refine Or.inr ⟨q, ⟨(({ U with heap := s₂.heap, slotsUsed := s₂.slotsUsed } : State).setVm s₂.vm), Ls ++ L, c0 + mc, s0 + ms⟩,
      ⟨X.admits, X.cas, X.clock, X.frames, X.room, X.hears, X.method, X.code, (X.here.setHeapUsed s₂.heap s₂.slotsUsed).setVm hW'.alike, X.tail, State.WarmedH.trans X.warmed hW', X.limits, X.bytes, X.same.trans (hsame.setVm s.vm)⟩,
      ⟨g, mk, s₂, L, E, ce, rfl, rfl, hx, hce, hcv, hcl, rfl, hL, rfl, rfl⟩, ?_⟩
    show Steps p.tables e below _ (((({ U with heap := s₂.heap, slotsUsed := s₂.slotsUsed } : State).setVm s₂.vm).setTop g).pushFrame (.throwing q))
    rw [← hs₂]
    exact hsteps
end Payer
section Calls
variable {p : Program} {l : Launch} {e : Env} {R : Room} {s : State} {m : MethodId} {args : Array Value} {below : List Frame} {meth : Method} {c : Code} {T : State} {locs : List Loc} {cells slots : Nat}
theorem vx_callV (X : Stand p l e R s m args below meth c T locs cells slots) (hexec : p.tables.exec = Jvm.exec) {own C : String} {index : Nat} {y : MethodName} {bytes : ByteArray} {maxL : Nat} {ret : Option FieldType}
    (hown : s.vm.findClass own = some m.cls) (hlink : (Cond.methodLink own index y).before args s = true) (hinst : (Cond.instanceMethod y).before args s = true) (hsel : (Cond.selects C y y).before args s = true)
    (hcode : (Cond.code y bytes maxL ret).before args s = true) (hy : y.cls ≠ "java/lang/invoke/MethodHandle" ∧ y.cls ≠ "java/lang/invoke/VarHandle")
    {W9 : Nat} {Pre : Pt → Array Value → Prop} {Post : Pt → Array Value → Option Value → Pt → Prop} {PostX : Pt → Array Value → Addr → Pt → Prop} (hK : vx_Back l R p e below s args y 3 W9 Pre Post PostX)
    {b : Addr} {cellB : Cell} (hcell : T.heap[b]? = some cellB) (hobj : cellB.vm.isStatics = false) (hcls : s.vm.findClass C = some cellB.cls)
    {g : JFrame} (hg : g.method = m) (hsize : g.locals.size = c.maxLocals) {argsL rest : List Value} (hlen : ∀ sig, parseMethodDescriptor y.desc = some sig → argsL.length = sig.parameters.length)
    (hstack : g.stack = argsL.reverse ++ .ref b :: rest) (hW : 2 * g.monitorRoom + (rest.map fun v => v.category).sum ≤ W9) (hdg : decode c.code g.pc = .ok (.invokevirtual index, 3))
    (hpre : ∀ vm₁, s.WarmedH vm₁ → Pre ⟨T.setVm vm₁, locs, cells, slots⟩ (Value.ref b :: argsL).toArray) :
    (∃ (v : Option Value) (vm₁ : Vm) (B : Pt), s.WarmedH vm₁ ∧ Stand p l e R s m args below meth c B.U B.locs B.cells B.slots ∧ Post ⟨T.setVm vm₁, locs, cells, slots⟩ (Value.ref b :: argsL).toArray v B ∧
      ∀ target, Steps p.tables e below (B.U.setTop { g with pc := g.pc + 3, stack := v.toList ++ rest }) target → Steps p.tables e below (T.setTop g) target) ∨
    (∃ (q : Addr) (vm₁ : Vm) (B : Pt), s.WarmedH vm₁ ∧ Stand p l e R s m args below meth c B.U B.locs B.cells B.slots ∧ PostX ⟨T.setVm vm₁, locs, cells, slots⟩ (Value.ref b :: argsL).toArray q B ∧
      Steps p.tables e below (T.setTop g) ((B.U.setTop { g with stack := rest }).pushFrame (.throwing q))) := by
  obtain ⟨mk, methM, hnamed, hmethM, hstM, habM⟩ := Cond.instanceMethod_spec hinst
  obtain ⟨methM', cM, hmethM', -, -, -, -, -, -, hsigM⟩ := Cond.code_spec hnamed hcode
  cases hmethM.symm.trans hmethM'
  obtain ⟨c2, r2, m2, q1, q2, q3, q4, kP, hkP, hkPi⟩ := Cond.selects_spec hsel
  cases hcls.symm.trans q1
  cases (State.methodFound?_of_named hnamed hy).symm.trans q2
  cases hnamed.symm.trans q3
  have hselP : selectMethod e.platform s.vm cellB.cls mk = .method mk := by rw [Launch.admits_selectMethod X.admits]; exact q4
  obtain ⟨vm₁, X₁, hstep₁⟩ := X.invokevirtual hexec hown hlink hnamed hmethM hstM hkP hkPi hy (a := b) (cell := cellB) hcell
    (fun z h => by rw [h] at hobj; cases hobj) hselP hmethM habM hkP hkPi (g := g) hg (argsL := argsL) (rest := rest) (hlen _ hsigM) hstack hdg
  rcases hK m meth c ⟨T.setVm vm₁, locs, cells, slots⟩ { g with stack := rest } (.invokevirtual index) mk (Value.ref b :: argsL).toArray X₁ hg hsize hdg hW (X₁.named hnamed) (hpre vm₁ X₁.warmed) with ⟨v, B, X', hpost, hsteps⟩ | ⟨q, B, X', hpost, hsteps⟩
  · exact Or.inl ⟨v, vm₁, B, X₁.warmed, X', hpost, fun target h => hstep₁ _ fun acts => by rw [doInvoke_state]; exact hsteps.trans h⟩
  · exact Or.inr ⟨q, vm₁, B, X₁.warmed, X', hpost, hstep₁ _ fun acts => by rw [doInvoke_state]; exact hsteps⟩
theorem vx_callS (X : Stand p l e R s m args below meth c T locs cells slots) (hexec : p.tables.exec = Jvm.exec) {own : String} {index : Nat} {y : MethodName} {bytes : ByteArray} {maxL : Nat} {ret : Option FieldType}
    (hown : s.vm.findClass own = some m.cls) (hlink : (Cond.methodLink own index y).before args s = true) (hstat : (Cond.static y).before args s = true) (hinit : (Cond.initialized y.cls).before args s = true)
    (hcode : (Cond.code y bytes maxL ret).before args s = true) (hy : y.cls ≠ "java/lang/invoke/MethodHandle" ∧ y.cls ≠ "java/lang/invoke/VarHandle")
    {W9 : Nat} {Pre : Pt → Array Value → Prop} {Post : Pt → Array Value → Option Value → Pt → Prop} {PostX : Pt → Array Value → Addr → Pt → Prop} (hK : vx_Back l R p e below s args y 3 W9 Pre Post PostX)
    {g : JFrame} (hg : g.method = m) (hsize : g.locals.size = c.maxLocals) {argsL rest : List Value} (hlen : ∀ sig, parseMethodDescriptor y.desc = some sig → argsL.length = sig.parameters.length)
    (hstack : g.stack = argsL.reverse ++ rest) (hW : 2 * g.monitorRoom + (rest.map fun v => v.category).sum ≤ W9) (hdg : decode c.code g.pc = .ok (.invokestatic index, 3))
    (hpre : ∀ vm₁, s.WarmedH vm₁ → Pre ⟨T.setVm vm₁, locs, cells, slots⟩ argsL.toArray) :
    (∃ (v : Option Value) (vm₁ : Vm) (B : Pt), s.WarmedH vm₁ ∧ Stand p l e R s m args below meth c B.U B.locs B.cells B.slots ∧ Post ⟨T.setVm vm₁, locs, cells, slots⟩ argsL.toArray v B ∧
      ∀ target, Steps p.tables e below (B.U.setTop { g with pc := g.pc + 3, stack := v.toList ++ rest }) target → Steps p.tables e below (T.setTop g) target) ∨
    (∃ (q : Addr) (vm₁ : Vm) (B : Pt), s.WarmedH vm₁ ∧ Stand p l e R s m args below meth c B.U B.locs B.cells B.slots ∧ PostX ⟨T.setVm vm₁, locs, cells, slots⟩ argsL.toArray q B ∧
      Steps p.tables e below (T.setTop g) ((B.U.setTop { g with stack := rest }).pushFrame (.throwing q))) := by
  obtain ⟨mk, hnamed⟩ := Cond.code_named hcode
  obtain ⟨methM, cM, hmethM, -, -, -, -, -, -, hsigM⟩ := Cond.code_spec hnamed hcode
  have hstatic : methM.isStatic = true := Cond.static_spec hnamed hmethM hstat
  obtain ⟨kP, hkP, -⟩ := className_of_methodNamed hnamed
  have hinitP : kP.init = .initialized := Cond.initialized_spec (findClass_of_methodNamed hnamed) hkP hinit
  obtain ⟨vm₁, X₁, hstep₁⟩ := X.invokestatic hexec hown hlink hnamed hmethM hstatic hkP hinitP hy (g := g) hg (argsL := argsL) (rest := rest) (hlen _ hsigM) hstack hdg
  rcases hK m meth c ⟨T.setVm vm₁, locs, cells, slots⟩ { g with stack := rest } (.invokestatic index) mk argsL.toArray X₁ hg hsize hdg hW (X₁.named hnamed) (hpre vm₁ X₁.warmed) with ⟨v, B, X', hpost, hsteps⟩ | ⟨q, B, X', hpost, hsteps⟩
  · exact Or.inl ⟨v, vm₁, B, X₁.warmed, X', hpost, fun target h => hstep₁ _ fun acts => by rw [doInvoke_state]; exact hsteps.trans h⟩
  · exact Or.inr ⟨q, vm₁, B, X₁.warmed, X', hpost, hstep₁ _ fun acts => by rw [doInvoke_state]; exact hsteps⟩
end Calls
theorem vx_cls {s : State} {T : State} {vm₁ : Vm} {E : String} {k : ClassId} (hW : s.WarmedH vm₁) (h : (T.setVm vm₁).vm.findClass E = some k) : s.vm.findClass E = some k := by
  have h1 : vm₁.findClass E = some k := h
  rw [hW.alike.findClass] at h1
  exact h1
/-- the method's frame g, with q thrown over it -/
def vx_W (p : Program) (l : Launch) (e : Env) (R : Room) (s : State) (m : MethodId) (args : Array Value) (below : List Frame) (meth : Method) (c : Code) (H : Heap) (locs : List Loc) (cells slots : Nat) (Q : State → Prop) (g : JFrame) (q : Addr) : Prop :=
  ∀ T : State, T.heap = H → Stand p l e R s m args below meth c T locs cells slots → ∃ t, Steps p.tables e below ((T.setTop g).pushFrame (.throwing q)) t ∧ Q t
def vx_Run (p : Program) (l : Launch) (e : Env) (R : Room) (s : State) (m : MethodId) (args : Array Value) (below : List Frame) (meth : Method) (c : Code) (H : Heap) (locs : List Loc) (cells slots mc ms : Nat) (g : JFrame) (rest : List Value) (Qa : State → Outcome → State → Prop) (XC : String → State → State → Prop) (free : Addr → Prop) : Prop :=
  ∀ T : State, T.heap = H → Stand p l e R s m args below meth c T locs cells slots →
    (∃ (v : Option Value) (st₀ t T' : State) (L : List Loc), st₀.heap = H ∧ Stand p l e R s m args below meth c T' (locs ++ L) (cells + mc) (slots + ms) ∧ (∀ q ∈ L, free q.base) ∧ T'.heap = t.heap ∧ T'.vm = t.vm ∧ Qa st₀ (.returned v) t ∧
      Goes p e below T g T' { g with pc := g.pc + 3, stack := v.toList ++ rest }) ∨
    (∃ (q : Addr) (st₀ t T' : State) (L : List Loc) (E : String) (ce : Cell), st₀.heap = H ∧ Stand p l e R s m args below meth c T' (locs ++ L) (cells + mc) (slots + ms) ∧ (∀ z ∈ L, free z.base) ∧ T'.heap = t.heap ∧ T'.vm = t.vm ∧ XC E st₀ t ∧ t.heap[q]? = some ce ∧ ce.vm = .none ∧ s.vm.findClass E = some ce.cls ∧
      Steps p.tables e below (T.setTop g) ((T'.setTop { g with stack := rest }).pushFrame (.throwing q)))
def vx_X {S : Type} (px : S → Prop) (B : String → S → State → Prop) (A : Nat → Prop) : String → State → State → Prop := fun E st t => ∃ u : S, px u ∧ B E u t ∧ va_F A st t
section Runs
variable {p : Program} {l : Launch} {e : Env} {R : Room} {s : State} {m : MethodId} {args : Array Value} {below : List Frame} {meth : Method} {c : Code} {H : Heap} {locs : List Loc} {cells slots : Nat}
variable {y : MethodName} {bytes cc : ByteArray} {maxL nL mc ms n index : Nat} {ret : Option FieldType} {ws : List Cond} {rm : Room} {Pc : Array Value → State → Prop} {Qc : Array Value → State → Outcome → State → Prop} {XC : String → State → State → Prop} {free : Addr → Prop} {Ts : List Cond} {own C : String} {b : Addr} {As rest : List Value} {g : JFrame}
theorem vx_callBack (cb : CallB R s args own index y bytes maxL ret ws rm mc ms n) (hM : vx_Met l y ws rm Pc Qc XC mc ms free) (hbl : FrameBlind Pc) : vx_Back l R p e below s args y 3 8 (PreOf R mc ms Pc) (PostOf Qc mc ms free) (vx_Post XC mc ms free) := by
  obtain ⟨hrc, hrs, hfr, hlo, hws, hcw, -, hini, -⟩ := cb
  exact vx_back (bytes := bytes) (maxL := maxL) (ret := ret) hM hbl hrc hrs hfr hlo hws hcw (fun a' U hW => word_at hW (Or.inl (by first | rfl | simp [Cond.onTables, Cond.keeps, Cond.steady])) hini)
theorem vx_runV (S : CallFix p m c cc nL s args Ts own) (hM : vx_Met l y ws rm Pc Qc XC mc ms free) (cw : CallW R s args own C index y bytes maxL ret ws rm mc ms n) (hp : PreV s H C b Pc As)
    (hg : g.method = m) (hn : As.length = n) (hsize : g.locals.size = nL) (hstack : g.stack = As.reverse ++ .ref b :: rest) (hW : 2 * g.monitorRoom + (rest.map fun v => v.category).sum ≤ 8) (hdg : decode cc g.pc = .ok (.invokevirtual index, 3)) (hf : cells + mc ≤ R.cells ∧ slots + ms ≤ R.slots) :
    vx_Run p l e R s m args below meth c H locs cells slots mc ms g rest (Qc (Value.ref b :: As).toArray) XC free := by
  have hK : vx_Back l R p e below s args y 3 8 (PreOf R mc ms Pc) (PostOf Qc mc ms free) (vx_Post XC mc ms free) := vx_callBack cw.1 hM hp.1
  obtain ⟨⟨-, -, -, -, -, -, hcode, -, hy, hlen, hl⟩, hin, hse⟩ := cw
  obtain ⟨hx, hb, hml, ho, -⟩ := S
  obtain ⟨-, ⟨cellB, hcB, hoB, hclB⟩, hPc⟩ := hp
  intro T hT X
  rcases vx_callV X hx (C := C) (bytes := bytes) (maxL := maxL) (ret := ret) ho hl hin hse hcode hy hK (by rw [hT]; exact hcB) hoB hclB hg (hsize.trans hml.symm) (argsL := As) (rest := rest) (fun sig h => hn.trans (hlen sig h)) hstack hW (by rw [hb]; exact hdg)
    (fun vm₁ hW₁ => ⟨hf.1, hf.2, hPc (T.setVm vm₁) hT hW₁⟩) with ⟨v, vm₁, ⟨U', l2, c2, s2⟩, hW₁, X', ⟨g', mk, t, L, e1, e2, hq, h1, hL, h2, h3⟩, st⟩ | ⟨q, vm₁, ⟨U', l2, c2, s2⟩, hW₁, X', ⟨g', mk, t, L, E, ce, e1, e2, hq, hce, hcv, hcl, h1, hL, h2, h3⟩, st⟩
  · dsimp only [Pt.U, Pt.locs, Pt.cells, Pt.slots] at X' e1 e2 h1 h2 h3 st
    subst h1; subst h2; subst h3
    exact Or.inl ⟨v, (T.setVm vm₁).calling g' mk (Value.ref b :: As).toArray, t, U', L, hT, X', hL, e1, e2, hq, st⟩
  · dsimp only [Pt.U, Pt.locs, Pt.cells, Pt.slots] at X' e1 e2 h1 h2 h3 st hcl
    subst h1; subst h2; subst h3
    exact Or.inr ⟨q, (T.setVm vm₁).calling g' mk (Value.ref b :: As).toArray, t, U', L, E, ce, hT, X', hL, e1, e2, hq, hce, hcv, vx_cls hW₁ hcl, st⟩
theorem vx_runS (S : CallFix p m c cc nL s args Ts own) (hM : vx_Met l y ws rm Pc Qc XC mc ms free) (cw : CallB R s args own index y bytes maxL ret ws rm mc ms n ∧ (Cond.static y).before args s = true) (hp : PreS s H Pc As)
    (hg : g.method = m) (hn : As.length = n) (hsize : g.locals.size = nL) (hstack : g.stack = As.reverse ++ rest) (hW : 2 * g.monitorRoom + (rest.map fun v => v.category).sum ≤ 8) (hdg : decode cc g.pc = .ok (.invokestatic index, 3)) (hf : cells + mc ≤ R.cells ∧ slots + ms ≤ R.slots) :
    vx_Run p l e R s m args below meth c H locs cells slots mc ms g rest (Qc As.toArray) XC free := by
  have hK : vx_Back l R p e below s args y 3 8 (PreOf R mc ms Pc) (PostOf Qc mc ms free) (vx_Post XC mc ms free) := vx_callBack cw.1 hM hp.1
  obtain ⟨⟨-, -, -, -, -, -, hcode, hini, hy, hlen, hl⟩, hstt⟩ := cw
  obtain ⟨hx, hb, hml, ho, -⟩ := S
  intro T hT X
  rcases vx_callS X hx (bytes := bytes) (maxL := maxL) (ret := ret) ho hl hstt hini hcode hy hK hg (hsize.trans hml.symm) (argsL := As) (rest := rest) (fun sig h => hn.trans (hlen sig h)) hstack hW (by rw [hb]; exact hdg)
    (fun vm₁ hW₁ => ⟨hf.1, hf.2, hp.2 (T.setVm vm₁) hT hW₁⟩) with ⟨v, vm₁, ⟨U', l2, c2, s2⟩, hW₁, X', ⟨g', mk, t, L, e1, e2, hq, h1, hL, h2, h3⟩, st⟩ | ⟨q, vm₁, ⟨U', l2, c2, s2⟩, hW₁, X', ⟨g', mk, t, L, E, ce, e1, e2, hq, hce, hcv, hcl, h1, hL, h2, h3⟩, st⟩
  · dsimp only [Pt.U, Pt.locs, Pt.cells, Pt.slots] at X' e1 e2 h1 h2 h3 st
    subst h1; subst h2; subst h3
    exact Or.inl ⟨v, (T.setVm vm₁).calling g' mk As.toArray, t, U', L, hT, X', hL, e1, e2, hq, st⟩
  · dsimp only [Pt.U, Pt.locs, Pt.cells, Pt.slots] at X' e1 e2 h1 h2 h3 st hcl
    subst h1; subst h2; subst h3
    exact Or.inr ⟨q, (T.setVm vm₁).calling g' mk As.toArray, t, U', L, E, ce, hT, X', hL, e1, e2, hq, hce, hcv, vx_cls hW₁ hcl, st⟩
end Runs
section Rows
variable {p : Program} {l : Launch} {e : Env} {R : Room} {s : State} {m : MethodId} {args : Array Value} {below : List Frame} {meth : Method} {c : Code} {H : Heap} {locs : List Loc} {cells slots : Nat} {Q : State → Prop}
variable {mc ms : Nat} {free : Addr → Prop} {A0 A1 : Nat → Prop} {H0 : Heap} {a : Array Value} {pc : Nat} {ls : Array Slot} {st0 rest : List Value}
theorem vx_keep {st₀ t T' : State} {L : List Loc} (h0 : st₀.heap = H) (e1 : T'.heap = t.heap) (hS : va_S A0 H0 H locs) (hA : ∀ q, q < H.size → A1 q → A0 q) (hf : ∀ q, free q → A0 q) (hL : ∀ q ∈ L, free q.base) (hF : va_F A1 st₀ t) :
    H.size ≤ T'.heap.size ∧ (∀ q : Nat, q < H.size → ¬ A1 q → T'.heap[q]? = H[q]?) ∧ va_S A0 H0 T'.heap (locs ++ L) := by
  obtain ⟨hz, hk⟩ := hF
  rw [h0] at hz hk
  exact ⟨by rw [e1]; exact hz, fun q h1 h2 => by rw [e1]; exact hk q h1 h2,
    ⟨Nat.le_trans hS.1 (by rw [e1]; exact hz), fun q h1 h2 => by rw [e1, hk q (Nat.lt_of_lt_of_le h1 hS.1) (fun z => h2 (hA q (Nat.lt_of_lt_of_le h1 hS.1) z))]; exact hS.2.1 q h1 h2, fun q hq => by
      rcases List.mem_append.mp hq with h | h
      · exact hS.2.2 q h
      · exact hf _ (hL q h)⟩⟩
theorem vx_calli {S SX : Type} {post : Int32 → S → Prop} {px : SX → Prop} {B : S → State → Prop} {BX : String → SX → State → Prop} {AX : Nat → Prop} (hr : vx_Run p l e R s m args below meth c H locs cells slots mc ms (F0 m pc ls st0) rest (va_Qi post B A1 a) (vx_X px BX AX) free) (hS : va_S A0 H0 H locs) (hA : ∀ q, q < H.size → A1 q → A0 q) (hf : ∀ q, free q → A0 q) (hAX : ∀ q, q < H.size → AX q → A0 q)
    (kx : ∀ (E : String) (ce : Cell) (q9 : Addr) (u : SX) (t : State) (H1 : Heap) (locs1 : List Loc), t.heap = H1 → s.vm.Alike t.vm → px u → BX E u t → H.size ≤ H1.size → (∀ q : Nat, q < H.size → ¬ AX q → H1[q]? = H[q]?) → va_S A0 H0 H1 locs1 → H1[q9]? = some ce → ce.vm = .none → s.vm.findClass E = some ce.cls → vx_W p l e R s m args below meth c H1 locs1 (cells + mc) (slots + ms) Q (F0 m pc ls rest) q9)
    (kk : ∀ (r : Int32) (u : S) (t : State) (H1 : Heap) (locs1 : List Loc), t.heap = H1 → s.vm.Alike t.vm → post r u → B u t → H.size ≤ H1.size → (∀ q : Nat, q < H.size → ¬ A1 q → H1[q]? = H[q]?) → va_S A0 H0 H1 locs1 → W p l e R s m args below meth c H1 locs1 (cells + mc) (slots + ms) Q (F0 m (pc + 3) ls (.int r :: rest))) : W p l e R s m args below meth c H locs cells slots Q (F0 m pc ls st0) := by
  intro T hT X
  rcases hr T hT X with ⟨v, st₀, t, T', L, h0, X', hL, e1, e2, ⟨⟨r, u, hv, hp, hb⟩, hF⟩, st⟩ | ⟨q, st₀, t, T', L, E, ce, h0, X', hL, e1, e2, ⟨u, hp, hb, hF⟩, hce, hcv, hcl, st⟩
  · cases hv
    obtain ⟨k1, k2, k3⟩ := vx_keep h0 e1 hS hA hf hL hF
    obtain ⟨t2, a1, b1⟩ := kk r u t T'.heap (locs ++ L) e1.symm (by rw [← e2]; exact X'.warmed.alike) hp hb k1 k2 k3 T' rfl X'
    exact ⟨t2, st t2 a1, b1⟩
  · obtain ⟨k1, k2, k3⟩ := vx_keep h0 e1 hS hAX hf hL hF
    obtain ⟨t2, a1, b1⟩ := kx E ce q u t T'.heap (locs ++ L) e1.symm (by rw [← e2]; exact X'.warmed.alike) hp hb k1 k2 k3 (by rw [e1]; exact hce) hcv hcl T' rfl X'
    exact ⟨t2, st.trans a1, b1⟩
theorem vx_calll {S SX : Type} {post : Int64 → S → Prop} {px : SX → Prop} {B : S → State → Prop} {BX : String → SX → State → Prop} {AX : Nat → Prop} (hr : vx_Run p l e R s m args below meth c H locs cells slots mc ms (F0 m pc ls st0) rest (va_Ql post B A1 a) (vx_X px BX AX) free) (hS : va_S A0 H0 H locs) (hA : ∀ q, q < H.size → A1 q → A0 q) (hf : ∀ q, free q → A0 q) (hAX : ∀ q, q < H.size → AX q → A0 q)
    (kx : ∀ (E : String) (ce : Cell) (q9 : Addr) (u : SX) (t : State) (H1 : Heap) (locs1 : List Loc), t.heap = H1 → s.vm.Alike t.vm → px u → BX E u t → H.size ≤ H1.size → (∀ q : Nat, q < H.size → ¬ AX q → H1[q]? = H[q]?) → va_S A0 H0 H1 locs1 → H1[q9]? = some ce → ce.vm = .none → s.vm.findClass E = some ce.cls → vx_W p l e R s m args below meth c H1 locs1 (cells + mc) (slots + ms) Q (F0 m pc ls rest) q9)
    (kk : ∀ (r : Int64) (u : S) (t : State) (H1 : Heap) (locs1 : List Loc), t.heap = H1 → s.vm.Alike t.vm → post r u → B u t → H.size ≤ H1.size → (∀ q : Nat, q < H.size → ¬ A1 q → H1[q]? = H[q]?) → va_S A0 H0 H1 locs1 → W p l e R s m args below meth c H1 locs1 (cells + mc) (slots + ms) Q (F0 m (pc + 3) ls (.long r :: rest))) : W p l e R s m args below meth c H locs cells slots Q (F0 m pc ls st0) := by
  intro T hT X
  rcases hr T hT X with ⟨v, st₀, t, T', L, h0, X', hL, e1, e2, ⟨⟨r, u, hv, hp, hb⟩, hF⟩, st⟩ | ⟨q, st₀, t, T', L, E, ce, h0, X', hL, e1, e2, ⟨u, hp, hb, hF⟩, hce, hcv, hcl, st⟩
  · cases hv
    obtain ⟨k1, k2, k3⟩ := vx_keep h0 e1 hS hA hf hL hF
    obtain ⟨t2, a1, b1⟩ := kk r u t T'.heap (locs ++ L) e1.symm (by rw [← e2]; exact X'.warmed.alike) hp hb k1 k2 k3 T' rfl X'
    exact ⟨t2, st t2 a1, b1⟩
  · obtain ⟨k1, k2, k3⟩ := vx_keep h0 e1 hS hAX hf hL hF
    obtain ⟨t2, a1, b1⟩ := kx E ce q u t T'.heap (locs ++ L) e1.symm (by rw [← e2]; exact X'.warmed.alike) hp hb k1 k2 k3 (by rw [e1]; exact hce) hcv hcl T' rfl X'
    exact ⟨t2, st.trans a1, b1⟩
theorem vx_callf {S SX : Type} {post : UInt32 → S → Prop} {px : SX → Prop} {B : S → State → Prop} {BX : String → SX → State → Prop} {AX : Nat → Prop} (hr : vx_Run p l e R s m args below meth c H locs cells slots mc ms (F0 m pc ls st0) rest (va_Qf post B A1 a) (vx_X px BX AX) free) (hS : va_S A0 H0 H locs) (hA : ∀ q, q < H.size → A1 q → A0 q) (hf : ∀ q, free q → A0 q) (hAX : ∀ q, q < H.size → AX q → A0 q)
    (kx : ∀ (E : String) (ce : Cell) (q9 : Addr) (u : SX) (t : State) (H1 : Heap) (locs1 : List Loc), t.heap = H1 → s.vm.Alike t.vm → px u → BX E u t → H.size ≤ H1.size → (∀ q : Nat, q < H.size → ¬ AX q → H1[q]? = H[q]?) → va_S A0 H0 H1 locs1 → H1[q9]? = some ce → ce.vm = .none → s.vm.findClass E = some ce.cls → vx_W p l e R s m args below meth c H1 locs1 (cells + mc) (slots + ms) Q (F0 m pc ls rest) q9)
    (kk : ∀ (r : UInt32) (u : S) (t : State) (H1 : Heap) (locs1 : List Loc), t.heap = H1 → s.vm.Alike t.vm → post r u → B u t → H.size ≤ H1.size → (∀ q : Nat, q < H.size → ¬ A1 q → H1[q]? = H[q]?) → va_S A0 H0 H1 locs1 → W p l e R s m args below meth c H1 locs1 (cells + mc) (slots + ms) Q (F0 m (pc + 3) ls (.float r :: rest))) : W p l e R s m args below meth c H locs cells slots Q (F0 m pc ls st0) := by
  intro T hT X
  rcases hr T hT X with ⟨v, st₀, t, T', L, h0, X', hL, e1, e2, ⟨⟨r, u, hv, hp, hb⟩, hF⟩, st⟩ | ⟨q, st₀, t, T', L, E, ce, h0, X', hL, e1, e2, ⟨u, hp, hb, hF⟩, hce, hcv, hcl, st⟩
  · cases hv
    obtain ⟨k1, k2, k3⟩ := vx_keep h0 e1 hS hA hf hL hF
    obtain ⟨t2, a1, b1⟩ := kk r u t T'.heap (locs ++ L) e1.symm (by rw [← e2]; exact X'.warmed.alike) hp hb k1 k2 k3 T' rfl X'
    exact ⟨t2, st t2 a1, b1⟩
  · obtain ⟨k1, k2, k3⟩ := vx_keep h0 e1 hS hAX hf hL hF
    obtain ⟨t2, a1, b1⟩ := kx E ce q u t T'.heap (locs ++ L) e1.symm (by rw [← e2]; exact X'.warmed.alike) hp hb k1 k2 k3 (by rw [e1]; exact hce) hcv hcl T' rfl X'
    exact ⟨t2, st.trans a1, b1⟩
theorem vx_calld {S SX : Type} {post : UInt64 → S → Prop} {px : SX → Prop} {B : S → State → Prop} {BX : String → SX → State → Prop} {AX : Nat → Prop} (hr : vx_Run p l e R s m args below meth c H locs cells slots mc ms (F0 m pc ls st0) rest (va_Qd post B A1 a) (vx_X px BX AX) free) (hS : va_S A0 H0 H locs) (hA : ∀ q, q < H.size → A1 q → A0 q) (hf : ∀ q, free q → A0 q) (hAX : ∀ q, q < H.size → AX q → A0 q)
    (kx : ∀ (E : String) (ce : Cell) (q9 : Addr) (u : SX) (t : State) (H1 : Heap) (locs1 : List Loc), t.heap = H1 → s.vm.Alike t.vm → px u → BX E u t → H.size ≤ H1.size → (∀ q : Nat, q < H.size → ¬ AX q → H1[q]? = H[q]?) → va_S A0 H0 H1 locs1 → H1[q9]? = some ce → ce.vm = .none → s.vm.findClass E = some ce.cls → vx_W p l e R s m args below meth c H1 locs1 (cells + mc) (slots + ms) Q (F0 m pc ls rest) q9)
    (kk : ∀ (r : UInt64) (u : S) (t : State) (H1 : Heap) (locs1 : List Loc), t.heap = H1 → s.vm.Alike t.vm → post r u → B u t → H.size ≤ H1.size → (∀ q : Nat, q < H.size → ¬ A1 q → H1[q]? = H[q]?) → va_S A0 H0 H1 locs1 → W p l e R s m args below meth c H1 locs1 (cells + mc) (slots + ms) Q (F0 m (pc + 3) ls (.double r :: rest))) : W p l e R s m args below meth c H locs cells slots Q (F0 m pc ls st0) := by
  intro T hT X
  rcases hr T hT X with ⟨v, st₀, t, T', L, h0, X', hL, e1, e2, ⟨⟨r, u, hv, hp, hb⟩, hF⟩, st⟩ | ⟨q, st₀, t, T', L, E, ce, h0, X', hL, e1, e2, ⟨u, hp, hb, hF⟩, hce, hcv, hcl, st⟩
  · cases hv
    obtain ⟨k1, k2, k3⟩ := vx_keep h0 e1 hS hA hf hL hF
    obtain ⟨t2, a1, b1⟩ := kk r u t T'.heap (locs ++ L) e1.symm (by rw [← e2]; exact X'.warmed.alike) hp hb k1 k2 k3 T' rfl X'
    exact ⟨t2, st t2 a1, b1⟩
  · obtain ⟨k1, k2, k3⟩ := vx_keep h0 e1 hS hAX hf hL hF
    obtain ⟨t2, a1, b1⟩ := kx E ce q u t T'.heap (locs ++ L) e1.symm (by rw [← e2]; exact X'.warmed.alike) hp hb k1 k2 k3 (by rw [e1]; exact hce) hcv hcl T' rfl X'
    exact ⟨t2, st.trans a1, b1⟩
theorem vx_callv {S SX : Type} {post : S → Prop} {px : SX → Prop} {B : S → State → Prop} {BX : String → SX → State → Prop} {AX : Nat → Prop} (hr : vx_Run p l e R s m args below meth c H locs cells slots mc ms (F0 m pc ls st0) rest (va_Qv post B A1 a) (vx_X px BX AX) free) (hS : va_S A0 H0 H locs) (hA : ∀ q, q < H.size → A1 q → A0 q) (hf : ∀ q, free q → A0 q) (hAX : ∀ q, q < H.size → AX q → A0 q)
    (kx : ∀ (E : String) (ce : Cell) (q9 : Addr) (u : SX) (t : State) (H1 : Heap) (locs1 : List Loc), t.heap = H1 → s.vm.Alike t.vm → px u → BX E u t → H.size ≤ H1.size → (∀ q : Nat, q < H.size → ¬ AX q → H1[q]? = H[q]?) → va_S A0 H0 H1 locs1 → H1[q9]? = some ce → ce.vm = .none → s.vm.findClass E = some ce.cls → vx_W p l e R s m args below meth c H1 locs1 (cells + mc) (slots + ms) Q (F0 m pc ls rest) q9)
    (kk : ∀ (u : S) (t : State) (H1 : Heap) (locs1 : List Loc), t.heap = H1 → s.vm.Alike t.vm → post u → B u t → H.size ≤ H1.size → (∀ q : Nat, q < H.size → ¬ A1 q → H1[q]? = H[q]?) → va_S A0 H0 H1 locs1 → W p l e R s m args below meth c H1 locs1 (cells + mc) (slots + ms) Q (F0 m (pc + 3) ls (rest))) : W p l e R s m args below meth c H locs cells slots Q (F0 m pc ls st0) := by
  intro T hT X
  rcases hr T hT X with ⟨v, st₀, t, T', L, h0, X', hL, e1, e2, ⟨⟨u, hv, hp, hb⟩, hF⟩, st⟩ | ⟨q, st₀, t, T', L, E, ce, h0, X', hL, e1, e2, ⟨u, hp, hb, hF⟩, hce, hcv, hcl, st⟩
  · cases hv
    obtain ⟨k1, k2, k3⟩ := vx_keep h0 e1 hS hA hf hL hF
    obtain ⟨t2, a1, b1⟩ := kk u t T'.heap (locs ++ L) e1.symm (by rw [← e2]; exact X'.warmed.alike) hp hb k1 k2 k3 T' rfl X'
    exact ⟨t2, st t2 a1, b1⟩
  · obtain ⟨k1, k2, k3⟩ := vx_keep h0 e1 hS hAX hf hL hF
    obtain ⟨t2, a1, b1⟩ := kx E ce q u t T'.heap (locs ++ L) e1.symm (by rw [← e2]; exact X'.warmed.alike) hp hb k1 k2 k3 (by rw [e1]; exact hce) hcv hcl T' rfl X'
    exact ⟨t2, st.trans a1, b1⟩
/-- caught by the row x of this method's table; the rows ahead don't take it -/
theorem vx_catch {own name : String} {E : String} {ce : Cell} {q : Addr} (hown : s.vm.findClass own = some m.cls) (pre : List ExceptionTableEntry) (x : ExceptionTableEntry) (suf : List ExceptionTableEntry) (hsplit : c.exceptionTable.toList = pre ++ x :: suf)
    (hpass : ∀ z ∈ pre, covers z pc = false ∨ (z.catchType ≠ 0 ∧ ∃ nm : String, (Cond.classLink own z.catchType nm).before args s = true ∧ va_Nc E nm s)) (hx : covers x pc = true) (h0 : x.catchType ≠ 0)
    (hlink : (Cond.classLink own x.catchType name).before args s = true) (hcast : (Cond.castable E name).before args s = true) (hcell : H[q]? = some ce) (hv : ce.vm = .none) (hcl : s.vm.findClass E = some ce.cls)
    (kk : W p l e R s m args below meth c H locs cells slots Q (F0 m x.handlerPc ls [.ref q])) : vx_W p l e R s m args below meth c H locs cells slots Q (F0 m pc ls rest) q := by
  intro T hT X
  have hpl : e.platform.magicAccessors = ({} : Platform).magicAccessors := by rw [X.admits.platform]
  obtain ⟨c3, c4, hc3, hc4, hasg⟩ := Cond.castable_spec hcast
  cases Option.some.inj (hc3.symm.trans hcl)
  obtain ⟨c5, hc5, hcl5⟩ := Cond.classLink_spec hown hlink e.platform hpl
  cases Option.some.inj (hc4.symm.trans hc5)
  obtain ⟨vm', X', st⟩ := X.thenCaughtThrough q (g := F0 m pc ls rest) rfl (Steps.refl _) (by rw [hT]; exact hcell) (by rw [hv]; rfl) (by obtain ⟨k9, h9, -⟩ := Vm.findClass_spec hcl; exact ⟨k9, h9⟩) pre x suf hsplit
    (fun z hz => by
      rcases hpass z hz with h | ⟨hz0, nm, hl1, hn1⟩
      · exact Or.inl h
      · obtain ⟨c6, hc6, hcl6⟩ := Cond.classLink_spec hown hl1 e.platform hpl
        obtain ⟨a8, b8, h1, h2, h3⟩ := hn1
        cases Option.some.inj (h1.symm.trans hcl)
        cases Option.some.inj (h2.symm.trans hc6)
        exact Or.inr ⟨hz0, _, hcl6, h3⟩) hx (Or.inr ⟨h0, c4, hcl5, hasg⟩)
  obtain ⟨t, a1, b1⟩ := kk (T.setVm vm') hT X'
  exact ⟨t, st.trans a1, b1⟩
end Rows
section Ends
variable {p : Program} {l : Launch} {e : Env} {R : Room} {s : State} {m : MethodId} {args : Array Value} {below : List Frame} {meth : Method} {c : Code} {H : Heap} {locs : List Loc} {cells slots : Nat} {Q : State → Prop}
variable {mc ms : Nat} {free : Addr → Prop} {A0 A1 : Nat → Prop} {H0 : Heap} {a : Array Value} {ls : Array Slot} {st0 rest : List Value}
variable {Qc : Array Value → State → Outcome → State → Prop} {XC : String → State → State → Prop}
/-- what a body that may throw owes at its end -/
def vx_MQ (below : List Frame) (Qc : Array Value → State → Outcome → State → Prop) (XC : String → State → State → Prop) (a : Array Value) (s : State) (mc ms : Nat) (free : Addr → Prop) : State → Prop := fun t =>
  ∃ o, t.status = .running ∧ Ended t below o ∧ vx_Q Qc XC mc ms free a s o t
theorem vx_ret {g : JFrame} {mc ms : Nat} (k : W p l e R s m args below meth c H locs cells slots (MQ below Qc args s mc ms free) g) : W p l e R s m args below meth c H locs cells slots (vx_MQ below Qc XC args s mc ms free) g := by
  intro T hT X
  obtain ⟨t, a1, o, b1, b2, b3, b4⟩ := k T hT X
  exact ⟨t, a1, o, b1, b2, Or.inl ⟨b3, b4⟩⟩
/-- not caught here: it goes on to the caller -/
theorem vx_widen {g : JFrame} {q : Addr} {k n : Nat} (h1 : cells ≤ k) (h2 : slots ≤ n) (kk : vx_W p l e R s m args below meth c H locs k n Q g q) : vx_W p l e R s m args below meth c H locs cells slots Q g q := fun T hT X => kk T hT (stand_widen X h1 h2)
theorem vx_out {pc : Nat} {E : String} {ce : Cell} {q : Addr} {mc ms : Nat} (hout : ∀ x ∈ c.exceptionTable.toList, covers x pc = false) (hlocks : meth.locks = false) (hcell : H[q]? = some ce) (hv : ce.vm = .none) (hcl : s.vm.findClass E = some ce.cls)
    (hx : ∀ t : State, t.heap = H → s.vm.Alike t.vm → XC E s t) (hf : ∀ z ∈ locs, free z.base) (hc : cells ≤ mc) (hs : slots ≤ ms) :
    vx_W p l e R s m args below meth c H locs cells slots (vx_MQ below Qc XC args s mc ms free) (F0 m pc ls rest) q := by
  intro T hT X
  obtain ⟨st1, hrun, hend, hW, hsm⟩ := X.leaveThrown q (g := F0 m pc ls rest) rfl rfl rfl hout hlocks
  have hcell9 : (T.setFrames (.throwing q :: below)).heap[q]? = some ce := by
    show T.heap[q]? = some ce
    rw [hT]; exact hcell
  exact ⟨_, st1, .threw q, hrun, hend, Or.inr ⟨q, rfl, E, ce, locs, hx _ hT hW.alike, hcell9, hv, hcl, hW, hsm.mono hc hs, hf⟩⟩
theorem vx_frame {U : State} {k n : Nat} (h : s.sameButNew ({ U with vm := s.vm } : State) locs k n) : s.heap.size ≤ U.heap.size ∧ ∀ q : Nat, q < s.heap.size → (∀ z ∈ locs, z.base ≠ q) → U.heap[q]? = s.heap[q]? := by
  obtain ⟨-, h2, -, -, -, h6⟩ := h
  refine ⟨h2, fun q hq hz => ?_⟩
  obtain ⟨c9, e1, e2, e3, e4⟩ := h6 q _ (Array.getElem?_eq_getElem hq)
  have hs : c9.slots = (s.heap[q]).slots := Array.ext_getElem? fun i => e4 i fun hm => hz _ hm rfl
  have h9 : c9 = s.heap[q] := by
    rw [hs] at e2
    exact e2
  have e5 : U.heap[q]? = some c9 := e1
  rw [e5, h9, Array.getElem?_eq_getElem hq]
/-- the words of a throw but the four that speak of the heap -/
def vx_no (w : Cond) : Bool := decide (w ≠ .isRef (.static Bundle.tN "UNASSIGNED_STACK" Bundle.steD)) && decide (w ≠ .isRef (.static Bundle.tN "SUPPRESSED_SENTINEL" Bundle.listD)) && decide (w ≠ .laysStatic Bundle.tN "UNASSIGNED_STACK" Bundle.steD) && decide (w ≠ .laysStatic Bundle.tN "SUPPRESSED_SENTINEL" Bundle.listD)
def vx_at0 (own : String) (ic : Nat) (X : String) (names : List String) : List Cond := (Bundle.ownAtoms0 own ic X names).filter vx_no
def vx_atS (own : String) (ic : Nat) (X : String) (names : List String) : List Cond := (Bundle.ownAtoms own ic X names).filter vx_no
/-- a word that the tables alone decide, or a good one -/
def vx_ot (w : Cond) : Bool := w.onTables || goodWord w
theorem vx_ot_at {args a' : Array Value} {s U : State} {w : Cond} (hW : s.WarmedH U.vm) (hvm : s.vm = U.vm) (hg : vx_ot w = true) (h : w.before args s = true) : w.before a' U = true := by
  simp only [vx_ot, Bool.or_eq_true] at hg
  rcases hg with hg | hg
  · exact va_tabs hg hvm h
  · exact word_at hW (good_of_word hg) h
/-- a list's words: the good ones out of the method's own list, the others by premises of their own -/
theorem vx_hat {args : Array Value} {s : State} {L B : List Cond} (h1 : ∀ w ∈ L.filter goodWord, w.before args s = true) (h2 : ∀ w ∈ L.filter (fun w => !goodWord w), w ∈ B) (h3 : ∀ w ∈ B, w.before args s = true) : ∀ w ∈ L, w.before args s = true := by
  intro w hw
  by_cases g : goodWord w = true
  · exact h1 w (List.mem_filter.mpr ⟨hw, g⟩)
  · refine h3 w (h2 w (List.mem_filter.mpr ⟨hw, ?_⟩))
    show (!goodWord w) = true
    cases hgw : goodWord w
    · rfl
    · exact absurd hgw g
theorem vx_c {args : Array Value} {s : State} {w : Cond} {B : List Cond} (h : w.before args s = true) (t : ∀ w ∈ B, w.before args s = true) : ∀ w' ∈ w :: B, w'.before args s = true := fun w' h' => (List.mem_cons.mp h').elim (fun e => by rw [e]; exact h) (t w')
theorem vx_n {args : Array Value} {s : State} : ∀ w ∈ ([] : List Cond), w.before args s = true := fun _ h => nomatch h
theorem vx_own {args : Array Value} {s : State} {L : List Cond} (h1 : ∀ w ∈ L.filter vx_no, w.before args s = true)
    (hU : (Cond.isRef (.static Bundle.tN "UNASSIGNED_STACK" Bundle.steD)).before args s = true) (hN : (Cond.isRef (.static Bundle.tN "SUPPRESSED_SENTINEL" Bundle.listD)).before args s = true)
    (lU : (Cond.laysStatic Bundle.tN "UNASSIGNED_STACK" Bundle.steD).before args s = true) (lN : (Cond.laysStatic Bundle.tN "SUPPRESSED_SENTINEL" Bundle.listD).before args s = true) : ∀ w ∈ L, w.before args s = true := by
  intro w hw
  by_cases e1 : w = .isRef (.static Bundle.tN "UNASSIGNED_STACK" Bundle.steD)
  · rw [e1]; exact hU
  · by_cases e2 : w = .isRef (.static Bundle.tN "SUPPRESSED_SENTINEL" Bundle.listD)
    · rw [e2]; exact hN
    · by_cases e3 : w = .laysStatic Bundle.tN "UNASSIGNED_STACK" Bundle.steD
      · rw [e3]; exact lU
      · by_cases e4 : w = .laysStatic Bundle.tN "SUPPRESSED_SENTINEL" Bundle.listD
        · rw [e4]; exact lN
        · exact h1 w (List.mem_filter.mpr ⟨hw, by unfold vx_no; rw [decide_eq_true e1, decide_eq_true e2, decide_eq_true e3, decide_eq_true e4]; rfl⟩)
/-- where a static field lies, its class's statics cell in H -/
def vx_L (C n d : String) (A : Nat → Prop) (U : State) (H : Heap) : Prop := ∃ (c : ClassId) (k : Class) (i : Nat) (f : Field) (a : Nat) (cell : Cell), U.vm.findClass C = some c ∧ U.fieldFound? C n d = some (c, k, i, f) ∧ f.isStatic = true ∧ k.statics = some a ∧ H[a]? = some cell ∧ cell.vm.isStatics = true ∧ cell.cls = c ∧ f.slot < cell.slots.size ∧ k.staticTypes[f.slot]? = some f.type ∧ ¬ A a
theorem vx_L.moved {C n d : String} {A : Nat → Prop} {u U : State} {H : Heap} (hvm : u.vm.Alike U.vm) (h : vx_L C n d A u H) : vx_L C n d A U H := by
  obtain ⟨c, k, i, f, a, cell, h1, h2, h3, h4, h5, h6, h7, h8, h9, h10⟩ := h
  obtain ⟨k', hi', he⟩ := State.fieldFound?_setVm hvm h2
  exact ⟨c, k', i, f, a, cell, by rw [hvm.findClass]; exact h1, hi', h3, by rw [he]; exact h4, h5, h6, h7, h8, by rw [he]; exact h9, h10⟩
theorem vx_L.kept {C n d : String} {A : Nat → Prop} {U : State} {H H1 : Heap} (h : vx_L C n d A U H) (hq : ∀ a : Nat, a < H.size → ¬ A a → H1[a]? = H[a]?) : vx_L C n d A U H1 := by
  obtain ⟨c, k, i, f, a, cell, h1, h2, h3, h4, h5, h6, h7, h8, h9, h10⟩ := h
  exact ⟨c, k, i, f, a, cell, h1, h2, h3, h4, by rw [hq a (Array.getElem?_eq_some_iff.mp h5).1 h10]; exact h5, h6, h7, h8, h9, h10⟩
theorem vx_L.narrow {C n d : String} {A B : Nat → Prop} {U : State} {H : Heap} (h : vx_L C n d A U H) (hAB : ∀ q, B q → A q) : vx_L C n d B U H := by
  obtain ⟨c, k, i, f, a, cell, h1, h2, h3, h4, h5, h6, h7, h8, h9, h10⟩ := h
  exact ⟨c, k, i, f, a, cell, h1, h2, h3, h4, h5, h6, h7, h8, h9, fun z => h10 (hAB _ z)⟩
theorem vx_L.word {C n d : String} {A : Nat → Prop} {s : State} {args : Array Value} (h : vx_L C n d A s s.heap) : (Cond.laysStatic C n d).before args s = true := by
  obtain ⟨c, k, i, f, a, cell, h1, h2, h3, h4, h5, h6, h7, h8, h9, -⟩ := h
  show (Cond.laysStatic C n d).holds args s none s [] = true
  exact Cond.laysStatic_of h1 h2 h3 h4 h5 h6 h7 h8 h9
/-- .. and what it holds: null or some reference -/
def vx_Zq (C n d : String) (A : Nat → Prop) (U : State) (H : Heap) : Prop := va_Zq C n d A U H ∧ vx_L C n d A U H
theorem vx_Zq.moved {C n d : String} {A : Nat → Prop} {u U : State} {H : Heap} (hvm : u.vm.Alike U.vm) (h : vx_Zq C n d A u H) : vx_Zq C n d A U H := ⟨va_Zq.moved hvm h.1, vx_L.moved hvm h.2⟩
theorem vx_Zq.kept {C n d : String} {A : Nat → Prop} {U : State} {H H1 : Heap} (h : vx_Zq C n d A U H) (hq : ∀ a : Nat, a < H.size → ¬ A a → H1[a]? = H[a]?) : vx_Zq C n d A U H1 := ⟨va_Zq.kept h.1 hq, vx_L.kept h.2 hq⟩
theorem vx_Zq.narrow {C n d : String} {A B : Nat → Prop} {U : State} {H : Heap} (h : vx_Zq C n d A U H) (hAB : ∀ q, B q → A q) : vx_Zq C n d B U H := ⟨va_Zq.narrow h.1 hAB, vx_L.narrow h.2 hAB⟩
theorem vx_Zqof {args : Array Value} {s : State} {C n d : String} {A : Nat → Prop} (hl : (Cond.laysStatic C n d).before args s = true) (hini : (Cond.initialized C).before args s = true) (h : (Cond.isRef (.static C n d)).before args s = true) (hA : ∀ a : Nat, a < s.heap.size → ¬ A a) : vx_Zq C n d A s s.heap := by
  refine ⟨va_Zqof hl hini h hA, ?_⟩
  obtain ⟨c, k, i, f, a, cell, h1, h2, h3, h4, h5, h6, h7, h8, h9⟩ := Cond.laysStatic_spec hl
  exact ⟨c, k, i, f, a, cell, h1, h2, h3, h4, h5, h6, h7, h8, h9, hA a (Array.getElem?_eq_some_iff.mp h5).1⟩
theorem vx_isRef {C n d : String} {v : Value} {A : Nat → Prop} {s : State} {args : Array Value} (h : va_Z C n d v A s s.heap) (hv : v.isRef = true) : (Cond.isRef (.static C n d)).before args s = true := by
  obtain ⟨cf, kf, fi, f, a, cell, h1, h2, h3, h4, h5, h6, h7, -⟩ := h
  have he : (Term.static C n d).eval args s none [] s = some v := by
    simp [Term.eval, State.fieldNamed?, h1, h2, h4, h5, h6, h7]
  simp only [Cond.before, Cond.holds, Cond.value, he]
  cases v <;> simp_all [Value.isRef]
theorem vx_isRefq {C n d : String} {A : Nat → Prop} {s : State} {args : Array Value} (h : va_Zq C n d A s s.heap) : (Cond.isRef (.static C n d)).before args s = true := by
  rcases h with h | ⟨t, h⟩
  · exact vx_isRef h rfl
  · exact vx_isRef h rfl
/-- the same frame, seen from here: as if the method were called anew in this heap -/
theorem vx_rebase {T : State} (X : Stand p l e R s m args below meth c T locs cells slots) {R' : Room} (hf : R'.frames ≤ R.frames) (hl : R'.locals ≤ R.locals) (hc : cells + R'.cells ≤ R.cells) (hs : slots + R'.slots ≤ R.slots) :
    Stand p l e R' ((T.setVm s.vm).setFrames (.invoking m args :: below)) m args below meth c T [] 0 0 := by
  have htop : (T.setVm s.vm).topJava?.isSome := X.here.top
  have hF : ((T.setVm s.vm).setFrames (.invoking m args :: below)).frames = .invoking m args :: below := State.frames_setFrames _ (State.cur_lt_of_top htop)
  obtain ⟨g₀, hg0⟩ := Option.isSome_iff_exists.mp htop
  obtain ⟨r, hr⟩ := State.topJava?_eq_some.mp hg0
  have hl9 : e.platform.stackLimits (T.setVm s.vm).me = e.platform.stackLimits s.me := X.limits
  have hb9 : (T.setVm s.vm).me.stackBytes = s.me.stackBytes := X.bytes
  refine ⟨X.admits, X.cas, X.clock, hF, ?_, X.hears, X.method, X.code, X.here, X.tail, X.warmed, ?_, ?_, ?_⟩
  · have h := X.room
    have hU : ((T.setVm s.vm).setFrames (.invoking m args :: below)).localsInUse = s.localsInUse := by
      rw [State.localsInUse_invoking hF (meth := meth) (c := c) X.method X.code, State.localsInUse_invoking X.frames X.method X.code]
    simp only [State.hasRoom, Bool.and_eq_true, decide_eq_true_eq] at h ⊢
    obtain ⟨⟨⟨⟨h1, h2, h3, h4, h5, h6⟩, h7⟩, h8⟩, h9⟩ := h
    rw [X.frames, List.length_cons] at h2 h3
    have q1 := X.heapSize
    have q2 := X.used
    simp only [hF, hU, List.length_cons, State.stackLimits_setFrames, State.stackBytes_setFrames, hl9, hb9]
    refine ⟨⟨⟨⟨by omega, by omega, by omega, by omega, by omega, h6⟩, ?_⟩, ?_⟩, X.book⟩
    · show T.heap.size + R'.cells ≤ e.platform.maxCells
      omega
    · show T.slotsUsed + R'.slots ≤ e.platform.maxSlots
      omega
  · rw [State.stackLimits_setFrames]; rfl
  · rw [State.stackBytes_setFrames]; rfl
  · refine ⟨?_, Nat.le_refl _, Nat.le_refl _, ?_, ?_, fun a c9 h9 => ⟨c9, h9, rfl, rfl, fun _ _ => rfl⟩⟩
    · obtain ⟨t, ht, -⟩ := State.frames_cons hr
      show T.setVm s.vm = { ((T.setVm s.vm).setFrames (.invoking m args :: below)).setFrames (T.setVm s.vm).frames with heap := T.heap, slotsUsed := T.slotsUsed }
      rw [State.setFrames_setFrames, State.setFrames_self ht]
      rfl
    · show T.slotsUsed = T.slotsUsed + ((T.heap.toList.drop T.heap.size).map (·.slots.size)).sum
      rw [List.drop_eq_nil_of_le (Nat.le_of_eq Array.length_toList)]
      rfl
    · show ((T.heap.toList.drop T.heap.size).map (·.slots.size)).sum ≤ 0
      rw [List.drop_eq_nil_of_le (Nat.le_of_eq Array.length_toList)]
      exact Nat.le_refl _
/-- 'throw new E()': new; dup; invokespecial; athrow -/
theorem vx_throw0 {cc : ByteArray} {pc : Nat} (hexec : p.tables.exec = Jvm.exec) (hb : c.code = cc) (hl : l.stackTraces = false) {own cls : String} {names : List String} {ik ic mc ms : Nat} {A : Nat → Prop}
    (hown : s.vm.findClass own = some m.cls) (hcls : Bundle.fit cls = true) (hnames : ∀ n ∈ names, Bundle.fit n = true)
    (hk : (Cond.classLink own ik cls).before args s = true) (hini : (Cond.initialized cls).before args s = true) (hat : ∀ w ∈ vx_at0 own ic cls names, w.before args s = true)
    (hgood : ∀ w ∈ Cond.classLink own ik cls :: Cond.initialized cls :: vx_at0 own ic cls names, vx_ot w = true)
    (hU : vx_Zq Bundle.tN "UNASSIGNED_STACK" Bundle.steD A s s.heap) (hN : vx_Zq Bundle.tN "SUPPRESSED_SENTINEL" Bundle.listD A s s.heap) (hS : va_S A s.heap H locs) (hsize : ls.size = c.maxLocals)
    (d0 : decode cc pc = .ok (.new ik, 3)) (d3 : decode cc (pc + 3) = .ok (.dup, 1)) (d4 : decode cc (pc + 4) = .ok (.invokespecial ic, 3)) (d7 : decode cc (pc + 7) = .ok (.athrow, 1))
    (hout : ∀ x ∈ c.exceptionTable.toList, covers x (pc + 7) = false)
    (hRframes : names.length + 3 < R.frames) (hRlocals : (rest.map fun v => v.category).sum + (13 * (names.length + 1) + 42) ≤ R.locals) (hRcells : cells + 1 ≤ R.cells) (hRslots : slots + 6 ≤ R.slots) (hlocks : meth.locks = false)
    (hx : ∀ t : State, s.vm.Alike t.vm → H.size ≤ t.heap.size → (∀ q : Nat, q < H.size → t.heap[q]? = H[q]?) → XC cls s t)
    (hf : ∀ z ∈ locs, free z.base) (hc : cells + 1 ≤ mc) (hs : slots + 6 ≤ ms) :
    W p l e R s m args below meth c H locs cells slots (vx_MQ below Qc XC args s mc ms free) (F0 m pc ls rest) := by
  intro T hT X
  have htr : e.platform.stackTraces = false := (show e.platform.stackTraces = l.stackTraces by rw [X.admits.platform]).trans hl
  have Y := vx_rebase X (R' := { frames := R.frames, locals := R.locals, cells := 1, slots := 6 }) (Nat.le_refl _) (Nat.le_refl _) hRcells hRslots
  obtain ⟨s', hA⟩ : ∃ z, z = (T.setVm s.vm).setFrames (.invoking m args :: below) := ⟨_, rfl⟩
  rw [← hA] at Y
  have hvm : s'.vm = s.vm := by rw [hA]; rfl
  have hhp : s'.heap = H := by rw [hA]; exact hT
  have hW0 : s.WarmedH s'.vm := by rw [hvm]; exact State.WarmedH.refl s
  have hat' : ∀ w ∈ vx_at0 own ic cls names, w.before args s' = true := fun w hw => vx_ot_at hW0 hvm.symm (hgood w (List.mem_cons_of_mem _ (List.mem_cons_of_mem _ hw))) (hat w hw)
  have hk' : (Cond.classLink own ik cls).before args s' = true := vx_ot_at hW0 hvm.symm (hgood _ List.mem_cons_self) hk
  have hini' : (Cond.initialized cls).before args s' = true := vx_ot_at hW0 hvm.symm (hgood _ (List.mem_cons_of_mem _ List.mem_cons_self)) hini
  have hU' : vx_Zq Bundle.tN "UNASSIGNED_STACK" Bundle.steD A s' s'.heap := by rw [hhp]; exact vx_Zq.moved hW0.alike (hU.kept hS.2.1)
  have hN' : vx_Zq Bundle.tN "SUPPRESSED_SENTINEL" Bundle.listD A s' s'.heap := by rw [hhp]; exact vx_Zq.moved hW0.alike (hN.kept hS.2.1)
  have h : ∀ w ∈ Bundle.ownAtoms0 own ic cls names, w.before args s' = true := vx_own hat' (vx_isRefq hU'.1) (vx_isRefq hN'.1) hU'.2.word hN'.2.word
  have hown' : s'.vm.findClass own = some m.cls := by rw [hvm]; exact hown
  have hins : (Cond.instantiable cls 6).before args s' = true := h _ (by simp [Bundle.ownAtoms0])
  obtain ⟨vm₁, cX, kX, hfX, hkX, -, -, X₁, st1⟩ := Y.newCold hexec (own := own) (C := cls) (index := ik) (n := 6) hown' hk' hins hini'
    (g := F0 m pc ls rest) rfl (by rw [hb]; exact d0) (Nat.le_refl _) (Nat.le_refl _)
  generalize hT1 : (T.setVm vm₁).pushCell { cls := cX, slots := kX.instanceTypes.map defaultValue, vm := .none } = T1 at X₁ st1
  have hcat : (Value.ref T.heap.size).category = 1 := rfl
  have hcellA : T1.heap[T.heap.size]? = some (freshCell cX kX) := by rw [← hT1]; exact State.heap_pushCell_size _ _
  have d3' : decode c.code (pc + 3) = .ok (.dup, 1) := by rw [hb]; exact d3
  obtain ⟨U, hsteps, hrun, hend, hW, hsame, ce, hce, hO⟩ := X₁.ctorThrow0 hexec htr (own := own) (cls := cls) (names := names) (ic := ic) hown' hcls hnames h (fun x hx => nomatch hx) hfX hkX hcellA (by rw [hhp, hT]; exact Nat.le_refl _)
    (g := { method := m, pc := pc + 4, locals := ls, stack := .ref T.heap.size :: .ref T.heap.size :: rest, locked := none }) rfl hsize rfl rfl (rest := rest) rfl
    (by rw [hb]; exact d4) (by rw [hb]; exact d7) hout hRframes (by simp only [List.map_cons, List.sum_cons, hcat]; omega) hlocks
  obtain ⟨f1, f2⟩ := vx_frame hsame
  rw [hhp] at f1 f2
  have hWs : s.WarmedH U.vm := State.WarmedH.trans hW0 hW
  have hcl : s.vm.findClass cls = some ce.cls := by
    have h9 := hO.cls
    rw [hvm] at h9
    exact h9
  have hall : s.sameButNew ({ U with vm := s.vm } : State) locs mc ms := by
    subst hA
    obtain ⟨e1, e2⟩ := hsame
    rw [State.setFrames_setFrames] at e1
    have h2 : (T.setVm s.vm).sameButNew ({ U with vm := s.vm } : State) [] (0 + 1) (0 + 6) := ⟨e1, e2⟩
    have h3 := X.same.trans h2
    rw [List.append_nil] at h3
    exact h3.mono hc hs
  refine ⟨U, ?_, .threw T.heap.size, hrun, hend, Or.inr ⟨T.heap.size, rfl, cls, ce, locs, hx U hWs.alike f1 (fun q hq => f2 q hq (fun z hz => nomatch hz)), hce, hO.vm, hcl, hWs, hall, hf⟩⟩
  refine st1 _ ?_
  show Steps p.tables e below (T1.setTop { method := m, pc := pc + 3, locals := ls, stack := .ref T.heap.size :: rest, locked := none }) _
  jvm_step X₁.here [X₁.here.top, hexec, d3', Value.category]
  exact hsteps
/-- 'throw new E("text")': new; dup; ldc; invokespecial; athrow -/
theorem vx_throwS {cc : ByteArray} {pc : Nat} (hexec : p.tables.exec = Jvm.exec) (hb : c.code = cc) (hl : l.stackTraces = false) {own cls text : String} {names : List String} {ik is ic mc ms sa : Nat} {A : Nat → Prop}
    (hown : s.vm.findClass own = some m.cls) (hcls : Bundle.fit cls = true) (hnames : ∀ n ∈ names, Bundle.fit n = true)
    (hk : (Cond.classLink own ik cls).before args s = true) (hini : (Cond.initialized cls).before args s = true) (hstr : vk_R own is text sa s) (hat : ∀ w ∈ vx_atS own ic cls names, w.before args s = true)
    (hgood : ∀ w ∈ Cond.classLink own ik cls :: Cond.initialized cls :: vx_atS own ic cls names, vx_ot w = true)
    (hU : vx_Zq Bundle.tN "UNASSIGNED_STACK" Bundle.steD A s s.heap) (hN : vx_Zq Bundle.tN "SUPPRESSED_SENTINEL" Bundle.listD A s s.heap) (hS : va_S A s.heap H locs) (hsize : ls.size = c.maxLocals)
    (d0 : decode cc pc = .ok (.new ik, 3)) (d3 : decode cc (pc + 3) = .ok (.dup, 1)) (d4 : decode cc (pc + 4) = .ok (.ldc is, 2)) (d6 : decode cc (pc + 6) = .ok (.invokespecial ic, 3)) (d9 : decode cc (pc + 9) = .ok (.athrow, 1))
    (hout : ∀ x ∈ c.exceptionTable.toList, covers x (pc + 9) = false)
    (hRframes : names.length + 3 < R.frames) (hRlocals : (rest.map fun v => v.category).sum + (13 * (names.length + 1) + 43) ≤ R.locals) (hRcells : cells + 1 ≤ R.cells) (hRslots : slots + 6 ≤ R.slots) (hlocks : meth.locks = false)
    (hx : ∀ t : State, s.vm.Alike t.vm → H.size ≤ t.heap.size → (∀ q : Nat, q < H.size → t.heap[q]? = H[q]?) → XC cls s t)
    (hf : ∀ z ∈ locs, free z.base) (hc : cells + 1 ≤ mc) (hs : slots + 6 ≤ ms) :
    W p l e R s m args below meth c H locs cells slots (vx_MQ below Qc XC args s mc ms free) (F0 m pc ls rest) := by
  intro T hT X
  have htr : e.platform.stackTraces = false := (show e.platform.stackTraces = l.stackTraces by rw [X.admits.platform]).trans hl
  have Y := vx_rebase X (R' := { frames := R.frames, locals := R.locals, cells := 1, slots := 6 }) (Nat.le_refl _) (Nat.le_refl _) hRcells hRslots
  obtain ⟨s', hA⟩ : ∃ z, z = (T.setVm s.vm).setFrames (.invoking m args :: below) := ⟨_, rfl⟩
  rw [← hA] at Y
  have hvm : s'.vm = s.vm := by rw [hA]; rfl
  have hhp : s'.heap = H := by rw [hA]; exact hT
  have hW0 : s.WarmedH s'.vm := by rw [hvm]; exact State.WarmedH.refl s
  have hat' : ∀ w ∈ vx_atS own ic cls names, w.before args s' = true := fun w hw => vx_ot_at hW0 hvm.symm (hgood w (List.mem_cons_of_mem _ (List.mem_cons_of_mem _ hw))) (hat w hw)
  have hk' : (Cond.classLink own ik cls).before args s' = true := vx_ot_at hW0 hvm.symm (hgood _ List.mem_cons_self) hk
  have hini' : (Cond.initialized cls).before args s' = true := vx_ot_at hW0 hvm.symm (hgood _ (List.mem_cons_of_mem _ List.mem_cons_self)) hini
  have hU' : vx_Zq Bundle.tN "UNASSIGNED_STACK" Bundle.steD A s' s'.heap := by rw [hhp]; exact vx_Zq.moved hW0.alike (hU.kept hS.2.1)
  have hN' : vx_Zq Bundle.tN "SUPPRESSED_SENTINEL" Bundle.listD A s' s'.heap := by rw [hhp]; exact vx_Zq.moved hW0.alike (hN.kept hS.2.1)
  have h : ∀ w ∈ Bundle.ownAtoms own ic cls names, w.before args s' = true := vx_own hat' (vx_isRefq hU'.1) (vx_isRefq hN'.1) hU'.2.word hN'.2.word
  have hown' : s'.vm.findClass own = some m.cls := by rw [hvm]; exact hown
  have hins : (Cond.instantiable cls 6).before args s' = true := h _ (by simp [Bundle.ownAtoms])
  obtain ⟨vm₁, cX, kX, hfX, hkX, -, -, X₁, st1⟩ := Y.newCold hexec (own := own) (C := cls) (index := ik) (n := 6) hown' hk' hins hini'
    (g := F0 m pc ls rest) rfl (by rw [hb]; exact d0) (Nat.le_refl _) (Nat.le_refl _)
  generalize hT1 : (T.setVm vm₁).pushCell { cls := cX, slots := kX.instanceTypes.map defaultValue, vm := .none } = T1 at X₁ st1
  have hcat : (Value.ref T.heap.size).category = 1 := rfl
  have hcellA : T1.heap[T.heap.size]? = some (freshCell cX kX) := by rw [← hT1]; exact State.heap_pushCell_size _ _
  have d3' : decode c.code (pc + 3) = .ok (.dup, 1) := by rw [hb]; exact d3
  have d4' : decode c.code (pc + 4) = .ok (.ldc is, 2) := by rw [hb]; exact d4
  have hstr' : vk_R own is text sa s' := vk_R.warm hW0 hstr
  obtain ⟨U, hsteps, hrun, hend, hW, hsame, ce, hce, hO⟩ := X₁.ctorThrowS hexec htr (own := own) (cls := cls) (names := names) (ic := ic) hown' hcls hnames h (fun x hx => nomatch hx) hfX hkX hcellA (by rw [hhp, hT]; exact Nat.le_refl _) (msg := .ref sa) rfl
    (g := { method := m, pc := pc + 6, locals := ls, stack := .ref sa :: .ref T.heap.size :: .ref T.heap.size :: rest, locked := none }) rfl hsize rfl rfl (rest := rest) rfl
    (by rw [hb]; exact d6) (by rw [hb]; exact d9) hout hRframes (by simp only [List.map_cons, List.sum_cons, hcat]; omega) hlocks
  obtain ⟨f1, f2⟩ := vx_frame hsame
  rw [hhp] at f1 f2
  have hWs : s.WarmedH U.vm := State.WarmedH.trans hW0 hW
  have hcl : s.vm.findClass cls = some ce.cls := by
    have h9 := hO.cls
    rw [hvm] at h9
    exact h9
  have hall : s.sameButNew ({ U with vm := s.vm } : State) locs mc ms := by
    subst hA
    obtain ⟨e1, e2⟩ := hsame
    rw [State.setFrames_setFrames] at e1
    have h2 : (T.setVm s.vm).sameButNew ({ U with vm := s.vm } : State) [] (0 + 1) (0 + 6) := ⟨e1, e2⟩
    have h3 := X.same.trans h2
    rw [List.append_nil] at h3
    exact h3.mono hc hs
  refine ⟨U, ?_, .threw T.heap.size, hrun, hend, Or.inr ⟨T.heap.size, rfl, cls, ce, locs, hx U hWs.alike f1 (fun q hq => f2 q hq (fun z hz => nomatch hz)), hce, hO.vm, hcl, hWs, hall, hf⟩⟩
  refine st1 _ ?_
  show Steps p.tables e below (T1.setTop { method := m, pc := pc + 3, locals := ls, stack := .ref T.heap.size :: rest, locked := none }) _
  jvm_step X₁.here [X₁.here.top, hexec, d3', Value.category]
  exact X₁.ldcString hexec (own := own) (text := text) (index := is) (a := sa) hown' hstr'.1 hstr'.2
    (g := { method := m, pc := pc + 4, locals := ls, stack := .ref T.heap.size :: .ref T.heap.size :: rest, locked := none }) rfl d4' _ hsteps
/-- 'throw new E("text")', the text by a wide index -/
theorem vx_throwSW {cc : ByteArray} {pc : Nat} (hexec : p.tables.exec = Jvm.exec) (hb : c.code = cc) (hl : l.stackTraces = false) {own cls text : String} {names : List String} {ik is ic mc ms sa : Nat} {A : Nat → Prop}
    (hown : s.vm.findClass own = some m.cls) (hcls : Bundle.fit cls = true) (hnames : ∀ n ∈ names, Bundle.fit n = true)
    (hk : (Cond.classLink own ik cls).before args s = true) (hini : (Cond.initialized cls).before args s = true) (hstr : vk_R own is text sa s) (hat : ∀ w ∈ vx_atS own ic cls names, w.before args s = true)
    (hgood : ∀ w ∈ Cond.classLink own ik cls :: Cond.initialized cls :: vx_atS own ic cls names, vx_ot w = true)
    (hU : vx_Zq Bundle.tN "UNASSIGNED_STACK" Bundle.steD A s s.heap) (hN : vx_Zq Bundle.tN "SUPPRESSED_SENTINEL" Bundle.listD A s s.heap) (hS : va_S A s.heap H locs) (hsize : ls.size = c.maxLocals)
    (d0 : decode cc pc = .ok (.new ik, 3)) (d3 : decode cc (pc + 3) = .ok (.dup, 1)) (d4 : decode cc (pc + 4) = .ok (.ldc_w is, 3)) (d7 : decode cc (pc + 7) = .ok (.invokespecial ic, 3)) (d10 : decode cc (pc + 10) = .ok (.athrow, 1))
    (hout : ∀ x ∈ c.exceptionTable.toList, covers x (pc + 10) = false)
    (hRframes : names.length + 3 < R.frames) (hRlocals : (rest.map fun v => v.category).sum + (13 * (names.length + 1) + 43) ≤ R.locals) (hRcells : cells + 1 ≤ R.cells) (hRslots : slots + 6 ≤ R.slots) (hlocks : meth.locks = false)
    (hx : ∀ t : State, s.vm.Alike t.vm → H.size ≤ t.heap.size → (∀ q : Nat, q < H.size → t.heap[q]? = H[q]?) → XC cls s t)
    (hf : ∀ z ∈ locs, free z.base) (hc : cells + 1 ≤ mc) (hs : slots + 6 ≤ ms) :
    W p l e R s m args below meth c H locs cells slots (vx_MQ below Qc XC args s mc ms free) (F0 m pc ls rest) := by
  intro T hT X
  have htr : e.platform.stackTraces = false := (show e.platform.stackTraces = l.stackTraces by rw [X.admits.platform]).trans hl
  have Y := vx_rebase X (R' := { frames := R.frames, locals := R.locals, cells := 1, slots := 6 }) (Nat.le_refl _) (Nat.le_refl _) hRcells hRslots
  obtain ⟨s', hA⟩ : ∃ z, z = (T.setVm s.vm).setFrames (.invoking m args :: below) := ⟨_, rfl⟩
  rw [← hA] at Y
  have hvm : s'.vm = s.vm := by rw [hA]; rfl
  have hhp : s'.heap = H := by rw [hA]; exact hT
  have hW0 : s.WarmedH s'.vm := by rw [hvm]; exact State.WarmedH.refl s
  have hat' : ∀ w ∈ vx_atS own ic cls names, w.before args s' = true := fun w hw => vx_ot_at hW0 hvm.symm (hgood w (List.mem_cons_of_mem _ (List.mem_cons_of_mem _ hw))) (hat w hw)
  have hk' : (Cond.classLink own ik cls).before args s' = true := vx_ot_at hW0 hvm.symm (hgood _ List.mem_cons_self) hk
  have hini' : (Cond.initialized cls).before args s' = true := vx_ot_at hW0 hvm.symm (hgood _ (List.mem_cons_of_mem _ List.mem_cons_self)) hini
  have hU' : vx_Zq Bundle.tN "UNASSIGNED_STACK" Bundle.steD A s' s'.heap := by rw [hhp]; exact vx_Zq.moved hW0.alike (hU.kept hS.2.1)
  have hN' : vx_Zq Bundle.tN "SUPPRESSED_SENTINEL" Bundle.listD A s' s'.heap := by rw [hhp]; exact vx_Zq.moved hW0.alike (hN.kept hS.2.1)
  have h : ∀ w ∈ Bundle.ownAtoms own ic cls names, w.before args s' = true := vx_own hat' (vx_isRefq hU'.1) (vx_isRefq hN'.1) hU'.2.word hN'.2.word
  have hown' : s'.vm.findClass own = some m.cls := by rw [hvm]; exact hown
  have hins : (Cond.instantiable cls 6).before args s' = true := h _ (by simp [Bundle.ownAtoms])
  obtain ⟨vm₁, cX, kX, hfX, hkX, -, -, X₁, st1⟩ := Y.newCold hexec (own := own) (C := cls) (index := ik) (n := 6) hown' hk' hins hini'
    (g := F0 m pc ls rest) rfl (by rw [hb]; exact d0) (Nat.le_refl _) (Nat.le_refl _)
  generalize hT1 : (T.setVm vm₁).pushCell { cls := cX, slots := kX.instanceTypes.map defaultValue, vm := .none } = T1 at X₁ st1
  have hcat : (Value.ref T.heap.size).category = 1 := rfl
  have hcellA : T1.heap[T.heap.size]? = some (freshCell cX kX) := by rw [← hT1]; exact State.heap_pushCell_size _ _
  have d3' : decode c.code (pc + 3) = .ok (.dup, 1) := by rw [hb]; exact d3
  have d4' : decode c.code (pc + 4) = .ok (.ldc_w is, 3) := by rw [hb]; exact d4
  have hstr' : vk_R own is text sa s' := vk_R.warm hW0 hstr
  obtain ⟨U, hsteps, hrun, hend, hW, hsame, ce, hce, hO⟩ := X₁.ctorThrowS hexec htr (own := own) (cls := cls) (names := names) (ic := ic) hown' hcls hnames h (fun x hx => nomatch hx) hfX hkX hcellA (by rw [hhp, hT]; exact Nat.le_refl _) (msg := .ref sa) rfl
    (g := { method := m, pc := pc + 7, locals := ls, stack := .ref sa :: .ref T.heap.size :: .ref T.heap.size :: rest, locked := none }) rfl hsize rfl rfl (rest := rest) rfl
    (by rw [hb]; exact d7) (by rw [hb]; exact d10) hout hRframes (by simp only [List.map_cons, List.sum_cons, hcat]; omega) hlocks
  obtain ⟨f1, f2⟩ := vx_frame hsame
  rw [hhp] at f1 f2
  have hWs : s.WarmedH U.vm := State.WarmedH.trans hW0 hW
  have hcl : s.vm.findClass cls = some ce.cls := by
    have h9 := hO.cls
    rw [hvm] at h9
    exact h9
  have hall : s.sameButNew ({ U with vm := s.vm } : State) locs mc ms := by
    subst hA
    obtain ⟨e1, e2⟩ := hsame
    rw [State.setFrames_setFrames] at e1
    have h2 : (T.setVm s.vm).sameButNew ({ U with vm := s.vm } : State) [] (0 + 1) (0 + 6) := ⟨e1, e2⟩
    have h3 := X.same.trans h2
    rw [List.append_nil] at h3
    exact h3.mono hc hs
  refine ⟨U, ?_, .threw T.heap.size, hrun, hend, Or.inr ⟨T.heap.size, rfl, cls, ce, locs, hx U hWs.alike f1 (fun q hq => f2 q hq (fun z hz => nomatch hz)), hce, hO.vm, hcl, hWs, hall, hf⟩⟩
  refine st1 _ ?_
  show Steps p.tables e below (T1.setTop { method := m, pc := pc + 3, locals := ls, stack := .ref T.heap.size :: rest, locked := none }) _
  jvm_step X₁.here [X₁.here.top, hexec, d3', Value.category]
  exact X₁.ldcStringW hexec (own := own) (text := text) (index := is) (a := sa) hown' hstr'.1 hstr'.2
    (g := { method := m, pc := pc + 4, locals := ls, stack := .ref T.heap.size :: .ref T.heap.size :: rest, locked := none }) rfl d4' _ hsteps
end Ends
section Bodies
variable {l : Launch}
theorem vx_ofW {y : MethodName} {ws ws' : List Cond} {rm : Room} {Pc : Array Value → State → Prop} {Qc : Array Value → State → Outcome → State → Prop} {XC : String → State → State → Prop} {mc ms : Nat} {free : Addr → Prop} {cc : ByteArray} {maxL : Nat} {ret : Option FieldType}
    (hy : plainName y.cls = true) (hw : ws = Cond.code y cc maxL ret :: ws')
    (body : ∀ p e s m args below meth c s₁, BodyLoose p l y (headSpec ws rm) cc maxL ret e s m args below meth c s₁ → c.maxLocals = maxL → (∀ x ∈ c.exceptionTable.toList, False) → Pc args s →
      W p l e (headSpec ws rm).room s m args below meth c s.heap [] 0 0 (vx_MQ below Qc XC args s mc ms free) (entryFrame m args maxL)) : vx_Met l y ws rm Pc Qc XC mc ms free := by
  refine MetFree.of_bodyS (code := cc) (maxLocals := maxL) (ret := ret) hy ?_ ?_
  · intro args s m h hn
    obtain ⟨meth, c, h1, h2, h3, h4, h5, h6, -, -⟩ := Cond.code_spec hn (atoms_spec (ws := ws) h _ (by rw [hw]; exact List.mem_cons_self))
    exact ⟨meth, c, h1, h2, h3, h4, h5, h6⟩
  · intro p e s m args below meth c s₁ B hml hP _
    have hh0 : s₁.heap = s.heap := by rw [B.state]; rfl
    have ht : ∀ x ∈ c.exceptionTable.toList, False := by
      obtain ⟨meth9, c9, h1, h2, -, -, -, -, h7, -⟩ := Cond.code_spec B.named (atoms_spec (ws := ws) B.pre _ (by rw [hw]; exact List.mem_cons_self))
      cases Option.some.inj (h1.symm.trans B.method)
      cases Option.some.inj (h2.symm.trans (Stand.of_body B).code)
      intro x hx
      rw [Array.isEmpty_iff.mp h7] at hx
      cases hx
    obtain ⟨t, a1, o, b1, b2, b3⟩ := body p e s m args below meth c s₁ B hml ht hP s₁ hh0 (Stand.of_body B)
    exact ⟨t, o, a1, b1, b2, b3⟩
/-- the table of a body with handlers -/
theorem vx_table {p : Program} {x y : MethodName} {S : Spec} {cc bytes : ByteArray} {maxL maxL' : Nat} {ret ret' : Option FieldType} {e : Env} {s s₁ : State} {m : MethodId} {args : Array Value} {below : List Frame} {meth : Method} {c : Code} {hh : List (Nat × Nat × Nat × Nat)}
    (B : BodyLoose p l y S cc maxL ret e s m args below meth c s₁) (h : (Cond.codeWith y bytes maxL' ret' hh).before args s = true) : c.exceptionTable.toList = tableOf hh := by
  obtain ⟨m9, meth9, c9, hn9, h1, h2, -, -, h6, -⟩ := Cond.codeWith_spec h
  cases Option.some.inj (hn9.symm.trans B.named)
  cases Option.some.inj (h1.symm.trans B.method)
  cases Option.some.inj (h2.symm.trans (Stand.of_body B).code)
  rw [← h6, table_eq]
end Bodies
end VXA
/-! ===== END ===== -/
/-! ===== BEGIN a static call of a method with an exception table ===== -/
section VXS
variable {p : Program} {l : Launch} {e : Env} {R : Room} {s : State} {m : MethodId} {args : Array Value} {below : List Frame} {meth : Method} {c : Code} {T : State} {H : Heap} {locs : List Loc} {cells slots : Nat}
abbrev vx_CSW (R : Room) (s : State) (args : Array Value) (own : String) (index : Nat) (y : MethodName) (bytes : ByteArray) (maxL : Nat) (ret : Option FieldType) (hh : List (Nat × Nat × Nat × Nat)) (ws : List Cond) (rm : Room) (mc ms n : Nat) : Prop :=
  (rm.cells = mc ∧ rm.slots = ms ∧ rm.frames + 1 ≤ R.frames ∧ 8 + (maxL + 11) + rm.locals ≤ R.locals ∧ (∀ w ∈ ws, ∀ (a' : Array Value) (U : State), s.WarmedH U.vm → w.before a' U = true) ∧ Cond.codeWith y bytes maxL ret hh ∈ ws) ∧
  (Cond.codeWith y bytes maxL ret hh).before args s = true ∧ (Cond.initialized y.cls).before args s = true ∧ (y.cls ≠ "java/lang/invoke/MethodHandle" ∧ y.cls ≠ "java/lang/invoke/VarHandle") ∧
  (∀ sig, parseMethodDescriptor y.desc = some sig → n = sig.parameters.length) ∧ (Cond.methodLink own index y).before args s = true ∧ (Cond.static y).before args s = true
theorem vx_cwSW {own : String} {index maxL mc ms : Nat} {y : MethodName} {bytes : ByteArray} {ret : Option FieldType} {hh : List (Nat × Nat × Nat × Nat)} {Ts ws ws' : List Cond} {rm : Room} (n : Nat) (ht : ∀ w ∈ Ts, w.before args s = true) (hT : GoodIn Ts (va_wsS own index y ws)) (hw : ws = Cond.codeWith y bytes maxL ret hh :: ws') (hrc : rm.cells = mc) (hrs : rm.slots = ms)
    (hd : y.cls ≠ "java/lang/invoke/MethodHandle" ∧ y.cls ≠ "java/lang/invoke/VarHandle" ∧ (parseMethodDescriptor y.desc).map (fun d => d.parameters.length) = some n) (hR : rm.frames + 1 ≤ R.frames ∧ 8 + (maxL + 11) + rm.locals ≤ R.locals) :
    vx_CSW R s args own index y bytes maxL ret hh ws rm mc ms n := by
  have ok : ∀ w ∈ va_wsS own index y ws, w.before args s = true := fun w h => ht w (hT w h).1
  have hG : GoodIn Ts ws := fun w h => hT w (by unfold va_wsS; exact List.mem_append_right _ h)
  have hc : Cond.codeWith y bytes maxL ret hh ∈ ws := by rw [hw]; exact List.mem_cons_self
  refine ⟨⟨hrc, hrs, hR.1, hR.2, pay_in ht hG, hc⟩, ht _ (hG _ hc).1, ok _ (by simp [va_wsS]), ⟨hd.1, hd.2.1⟩, fun sig h => ?_, ok _ (by simp [va_wsS]), ok _ (by simp [va_wsS])⟩
  have h2 := hd.2.2
  rw [h] at h2
  exact (Option.some.inj h2).symm
theorem vx_callSW (X : Stand p l e R s m args below meth c T locs cells slots) (hexec : p.tables.exec = Jvm.exec) {own : String} {index : Nat} {y : MethodName} {bytes : ByteArray} {maxL : Nat} {ret : Option FieldType} {hh : List (Nat × Nat × Nat × Nat)}
    (hown : s.vm.findClass own = some m.cls) (hlink : (Cond.methodLink own index y).before args s = true) (hstat : (Cond.static y).before args s = true) (hinit : (Cond.initialized y.cls).before args s = true)
    (hcode : (Cond.codeWith y bytes maxL ret hh).before args s = true) (hy : y.cls ≠ "java/lang/invoke/MethodHandle" ∧ y.cls ≠ "java/lang/invoke/VarHandle")
    {W9 : Nat} {Pre : Pt → Array Value → Prop} {Post : Pt → Array Value → Option Value → Pt → Prop} (hK : Back l R p e below s args y 3 W9 Pre Post)
    {g : JFrame} (hg : g.method = m) (hsize : g.locals.size = c.maxLocals) {argsL rest : List Value} (hlen : ∀ sig, parseMethodDescriptor y.desc = some sig → argsL.length = sig.parameters.length)
    (hstack : g.stack = argsL.reverse ++ rest) (hW : 2 * g.monitorRoom + (rest.map fun v => v.category).sum ≤ W9) (hdg : decode c.code g.pc = .ok (.invokestatic index, 3))
    (hpre : ∀ vm₁, s.WarmedH vm₁ → Pre ⟨T.setVm vm₁, locs, cells, slots⟩ argsL.toArray) :
    ∃ (v : Option Value) (vm₁ : Vm) (B : Pt), s.WarmedH vm₁ ∧ Stand p l e R s m args below meth c B.U B.locs B.cells B.slots ∧ Post ⟨T.setVm vm₁, locs, cells, slots⟩ argsL.toArray v B ∧
      ∀ target, Steps p.tables e below (B.U.setTop { g with pc := g.pc + 3, stack := v.toList ++ rest }) target → Steps p.tables e below (T.setTop g) target := by
  obtain ⟨mk, methM, cM, hnamed, hmethM, -, -, -, -, -, -, hsigM⟩ := Cond.codeWith_spec hcode
  have hstatic : methM.isStatic = true := Cond.static_spec hnamed hmethM hstat
  obtain ⟨kP, hkP, -⟩ := className_of_methodNamed hnamed
  have hinitP : kP.init = .initialized := Cond.initialized_spec (findClass_of_methodNamed hnamed) hkP hinit
  obtain ⟨vm₁, X₁, hstep₁⟩ := X.invokestatic hexec hown hlink hnamed hmethM hstatic hkP hinitP hy (g := g) hg (argsL := argsL) (rest := rest) (hlen _ hsigM) hstack hdg
  obtain ⟨v, B, X', hpost, hsteps⟩ := hK m meth c ⟨T.setVm vm₁, locs, cells, slots⟩ { g with stack := rest } (.invokestatic index) mk argsL.toArray X₁ hg hsize hdg hW (X₁.named hnamed) (hpre vm₁ X₁.warmed)
  exact ⟨v, vm₁, B, X₁.warmed, X', hpost, fun target h => hstep₁ _ fun acts => by rw [doInvoke_state]; exact hsteps.trans h⟩
theorem vx_runSW {y : MethodName} {bytes cc : ByteArray} {maxL nL mc ms n index : Nat} {ret : Option FieldType} {hh : List (Nat × Nat × Nat × Nat)} {ws : List Cond} {rm : Room} {Pc : Array Value → State → Prop} {Qc : Array Value → State → Outcome → State → Prop} {free : Addr → Prop} {Ts : List Cond} {own : String} {As rest : List Value} {g : JFrame}
    (S : CallFix p m c cc nL s args Ts own) (hM : Met l y ws rm Pc Qc mc ms free) (cw : vx_CSW R s args own index y bytes maxL ret hh ws rm mc ms n) (hp : PreS s H Pc As)
    (hg : g.method = m) (hn : As.length = n) (hsize : g.locals.size = nL) (hstack : g.stack = As.reverse ++ rest) (hW : 2 * g.monitorRoom + (rest.map fun v => v.category).sum ≤ 8) (hdg : decode cc g.pc = .ok (.invokestatic index, 3)) (hf : cells + mc ≤ R.cells ∧ slots + ms ≤ R.slots) :
    va_Run p l e R s m args below meth c H locs cells slots mc ms g rest (Qc As.toArray) (free) := by
  obtain ⟨⟨hrc, hrs, hfr, hlo, hws, hcw⟩, hcode, hini, hy, hlen, hl, hstt⟩ := cw
  have hK : Back l R p e below s args y 3 8 (PreOf R mc ms Pc) (PostOf Qc mc ms free) := va_backW (hh := hh) (bytes := bytes) (maxL := maxL) (ret := ret) hM hp.1 hrc hrs hfr hlo hws hcw (fun a' U hW => word_at hW (Or.inl (by first | rfl | simp [Cond.onTables, Cond.keeps, Cond.steady])) hini)
  obtain ⟨hx, hb, hml, ho, -⟩ := S
  intro T hT X
  obtain ⟨v, vm₁, ⟨U', l2, c2, s2⟩, hW₁, X', ⟨g', mk, t, L, e1, e2, hq, h1, hL, h2, h3⟩, st⟩ := vx_callSW X hx (hh := hh) (bytes := bytes) (maxL := maxL) (ret := ret) ho hl hstt hini hcode hy hK hg (hsize.trans hml.symm) (argsL := As) (rest := rest) (fun sig h => hn.trans (hlen sig h)) hstack hW (by rw [hb]; exact hdg)
    (fun vm₁ hW₁ => ⟨hf.1, hf.2, hp.2 (T.setVm vm₁) hT hW₁⟩)
  dsimp only [Pt.U, Pt.locs, Pt.cells, Pt.slots] at X' e1 e2 h1 h2 h3 st
  subst h1; subst h2; subst h3
  exact ⟨v, (T.setVm vm₁).calling g' mk As.toArray, t, U', L, hT, X', hL, e1, e2, hq, st⟩
/-- not caught here, past rows that name other classes: it goes on to the caller -/
theorem vx_outP {p : Program} {l : Launch} {e : Env} {R : Room} {s : State} {m : MethodId} {args : Array Value} {below : List Frame} {meth : Method} {c : Code} {H : Heap} {locs : List Loc} {cells slots : Nat} {free : Addr → Prop} {ls : Array Slot} {rest : List Value} {Qc : Array Value → State → Outcome → State → Prop} {XC : String → State → State → Prop}
    {pc : Nat} {own E : String} {ce : Cell} {q : Addr} {mc ms : Nat} (hown : s.vm.findClass own = some m.cls) (hlocks : meth.locks = false)
    (hpass : ∀ z ∈ c.exceptionTable.toList, covers z pc = false ∨ (z.catchType ≠ 0 ∧ ∃ nm : String, (Cond.classLink own z.catchType nm).before args s = true ∧ va_Nc E nm s)) (hcell : H[q]? = some ce) (hv : ce.vm = .none) (hcl : s.vm.findClass E = some ce.cls)
    (hx : ∀ t : State, t.heap = H → s.vm.Alike t.vm → XC E s t) (hf : ∀ z ∈ locs, free z.base) (hc : cells ≤ mc) (hs : slots ≤ ms) :
    vx_W p l e R s m args below meth c H locs cells slots (vx_MQ below Qc XC args s mc ms free) (F0 m pc ls rest) q := by
  intro T hT X
  have hpl : e.platform.magicAccessors = ({} : Platform).magicAccessors := by rw [X.admits.platform]
  obtain ⟨vm', hW', X', st⟩ := X.outThrough hlocks q (g := F0 m pc ls rest) rfl rfl rfl (cell := ce) (by rw [hT]; exact hcell) (by rw [hv]; rfl)
    (by obtain ⟨k9, h9, -⟩ := Vm.findClass_spec hcl; exact ⟨k9, h9⟩) (fun z hz => by
      rcases hpass z hz with h | ⟨hz0, nm, hl1, hn1⟩
      · exact Or.inl h
      · obtain ⟨c6, hc6, hcl6⟩ := Cond.classLink_spec hown hl1 e.platform hpl
        obtain ⟨a8, b8, h1, h2, h3⟩ := hn1
        cases Option.some.inj (h1.symm.trans hcl)
        cases Option.some.inj (h2.symm.trans hc6)
        exact Or.inr ⟨hz0, _, hcl6, h3⟩)
  obtain ⟨g₀, hfr⟩ := X'.frames_eq
  have hcell9 : ((T.setVm vm').setFrames (.throwing q :: below)).heap[q]? = some ce := by
    show T.heap[q]? = some ce
    rw [hT]; exact hcell
  have hend : Ended ((T.setVm vm').setFrames (.throwing q :: below)) below (.threw q) := State.frames_setFrames _ (State.cur_lt_of_frames hfr)
  refine ⟨(T.setVm vm').setFrames (.throwing q :: below), ?_, .threw q, X'.here.running, hend, Or.inr ⟨q, rfl, E, ce, locs, hx _ hT (X'.ends _).1.alike, hcell9, hv, hcl, (X'.ends _).1, (X'.ends _).2.mono hc hs, hf⟩⟩
  rw [X.pushThrowing_eq]
  exact st
/-- a thing of a world lies in the heap -/
theorem vx_lt {D : va_G} {cl : List vw_C} {ws : va_W} {H1 : Heap} (h : va_P D cl ws H1) {k : Nat} {q : Nat × va_E} (hk : ws[k]? = some q) : q.1 < H1.size := (h k q hk).lt
end VXS
/-! ===== END ===== -/
/-! ===== BEGIN methods with a table of their own: called by a name, returning or throwing ===== -/
section VXH
/-! vx_backW, vx_callVX, vx_callSX, vx_callVW, vx_runVW, vx_runVX, vx_runSX, vx_ofWH follow the same proofs as their sisters above (Free/Laws.lean, Shelf42/LK1.lean); vx_outP calls Shelf42/NT130.lean (outThrough). -/
section
variable {l : Launch} {R : Room} {p : Program} {e : Env} {below : List Frame} {s : State} {sargs : Array Value} {y : MethodName} {len W9 : Nat}
theorem vx_backW {ws : List Cond} {rm : Room} {Pc : Array Value → State → Prop} {Qc : Array Value → State → Outcome → State → Prop} {XC : String → State → State → Prop} {mc ms : Nat} {free : Addr → Prop} {bytes : ByteArray} {maxL : Nat} {ret : Option FieldType} {hh : List (Nat × Nat × Nat × Nat)}
    (hM : vx_Met l y ws rm Pc Qc XC mc ms free) (hblind : FrameBlind Pc) (hrc : rm.cells = mc) (hrs : rm.slots = ms)
    (hframes : rm.frames + 1 ≤ R.frames) (hlocals : W9 + (maxL + 11) + rm.locals ≤ R.locals)
    (hws : ∀ w ∈ ws, ∀ a' U, s.WarmedH U.vm → w.before a' U = true) (hcode : Cond.codeWith y bytes maxL ret hh ∈ ws) (hinit : ∀ a' U, s.WarmedH U.vm → (Cond.initialized y.cls).before a' U = true) :
    vx_Back l R p e below s sargs y len W9 (PreOf R mc ms Pc) (PostOf Qc mc ms free) (vx_Post XC mc ms free) := by
  intro m meth c A g ig mk a X hg hsize hdg hW hn hp
  have h1 : (headSpec ws rm).pre.before a A.U = true := atoms_intro fun w hw => hws w hw _ _ X.warmed
  have h2 : (Cond.codeWith y bytes maxL ret hh).before a A.U = true := hws _ hcode _ _ X.warmed
  have h3 : (Cond.initialized y.cls).before a A.U = true := hinit _ _ X.warmed
  have h4 : A.cells + (headSpec ws rm).room.cells ≤ R.cells := by rw [show (headSpec ws rm).room.cells = mc from hrc]; exact hp.1
  have h5 : A.slots + (headSpec ws rm).room.slots ≤ R.slots := by rw [show (headSpec ws rm).room.slots = ms from hrs]; exact hp.2.1
  have hPc : Pc a (A.U.calling g mk a) := hblind _ _ _ _ hp.2.2
  obtain ⟨U, Ls, c0, s0⟩ := A
  dsimp only [Pt.U, Pt.locs, Pt.cells, Pt.slots] at h1 h2 h3 h4 h5 X hn hPc ⊢
  obtain ⟨m9, methY, cY, hn9, hmY, hcY, -, hlY, -⟩ := Cond.codeWith_spec h2
  cases Option.some.inj (hn9.symm.trans hn)
  obtain ⟨kY, hkY, -⟩ := className_of_methodNamed hn
  have hinitY : kY.init = .initialized := Cond.initialized_spec (findClass_of_methodNamed hn) hkY h3
  have h : At U g.method c below := by rw [hg]; exact X.here
  have hlocals9 : W9 + (maxL + 11) + (headSpec ws rm).room.locals ≤ R.locals := hlocals
  have happ : (headSpec ws rm).appliesLoose y e.platform (U.calling g mk a) = true :=
    Spec.appliesLoose_calling (g := g) h hdg hn hkY hinitY
      (X.room_calling (g := g) (R' := (headSpec ws rm).room) hsize hmY hcY hframes (by rw [hlY]; omega) h4 h5) h1
  obtain ⟨mid, hmid⟩ := h.above
  have hfr : (U.setTop g).frames = (.java g :: mid) ++ below := by rw [State.frames_setTop' g h.top, hmid]; rfl
  obtain ⟨o, s₂, hsteps, -, hend, hq⟩ := Steps.callFree hM p X.admits X.cas X.clock (acts := []) hfr happ hPc trivial
  have hq' : vx_Q Qc XC mc ms free a (U.calling g mk a) o s₂ := hq
  rw [State.frames_setTop' g h.top] at hend
  obtain ⟨g₀, hg0⟩ := Option.isSome_iff_exists.mp h.top
  obtain ⟨r, hr⟩ := State.topJava?_eq_some.mp hg0
  have hr' : (({ U with heap := s₂.heap, slotsUsed := s₂.slotsUsed } : State).setVm s₂.vm).frames = .java g₀ :: r := hr
  rcases hq' with ⟨hqc, L, hfe, hL⟩ | ⟨q, rfl, E, ce, L, hx, hce, hcv, hcl, hW₂, hsm, hL⟩
  · obtain ⟨⟨v, rfl⟩, hW₂, e2, q2, q3, q4, q5, q6⟩ := id hfe
    have e3 : s₂ = ({ (U.calling g mk a).setFrames s₂.frames with heap := s₂.heap, slotsUsed := s₂.slotsUsed } : State).setVm s₂.vm := by
      have : s₂ = ({ s₂ with vm := (U.calling g mk a).vm } : State).setVm s₂.vm := rfl
      rw [e2] at this
      exact this
    obtain ⟨c₂, i₂, len₂, hc₂, hd₂, hf₂⟩ := hend
    have hW' : U.WarmedH s₂.vm := hW₂
    have hcc : c₂ = c := by
      have h1 : s₂.code? g.method = U.code? g.method := by
        rw [State.code?_eq, State.code?_eq, hW'.alike.method?]
      exact Option.some.inj (hc₂.symm.trans (h1.trans h.code))
    subst hcc
    have hlen : len₂ = len := by rw [hdg] at hd₂; cases hd₂; rfl
    subst hlen
    have hs₂ : s₂ = (({ U with heap := s₂.heap, slotsUsed := s₂.slotsUsed } : State).setVm s₂.vm).setTop { g with pc := g.pc + len₂, stack := v.toList ++ g.stack } := by
      refine e3.trans ?_
      rw [hf₂, State.calling_eq h.top, State.setFrames_setFrames, State.setTop_of_frames _ hr', hr]
      rfl
    have hsame : U.sameButNew ({ U with heap := s₂.heap, slotsUsed := s₂.slotsUsed } : State) L mc ms := by
      refine ⟨?_, q2, q3, q4, q5, q6⟩
      obtain ⟨t, ht, -⟩ := State.frames_cons hr
      show ({ U with heap := s₂.heap, slotsUsed := s₂.slotsUsed } : State) = { U.setFrames U.frames with heap := s₂.heap, slotsUsed := s₂.slotsUsed }
      rw [State.setFrames_self ht]
    subst hg
    refine Or.inl ⟨v, ⟨(({ U with heap := s₂.heap, slotsUsed := s₂.slotsUsed } : State).setVm s₂.vm), Ls ++ L, c0 + mc, s0 + ms⟩,
      ⟨X.admits, X.cas, X.clock, X.frames, X.room, X.hears, X.method, X.code, (X.here.setHeapUsed s₂.heap s₂.slotsUsed).setVm hW'.alike, X.tail, State.WarmedH.trans X.warmed hW', X.limits, X.bytes, X.same.trans (hsame.setVm s.vm)⟩,
      ⟨g, mk, s₂, L, rfl, rfl, hqc, rfl, hL, rfl, rfl⟩, ?_⟩
    show Steps p.tables e below _ ((({ U with heap := s₂.heap, slotsUsed := s₂.slotsUsed } : State).setVm s₂.vm).setTop { g with pc := g.pc + len₂, stack := v.toList ++ g.stack })
    rw [← hs₂]
    exact hsteps
  · obtain ⟨e2, q2, q3, q4, q5, q6⟩ := id hsm
    have e3 : s₂ = ({ (U.calling g mk a).setFrames s₂.frames with heap := s₂.heap, slotsUsed := s₂.slotsUsed } : State).setVm s₂.vm := by
      have : s₂ = ({ s₂ with vm := (U.calling g mk a).vm } : State).setVm s₂.vm := rfl
      rw [e2] at this
      exact this
    have hf₂ : s₂.frames = .throwing q :: .java g :: U.frames.tail := hend
    have hW' : U.WarmedH s₂.vm := hW₂
    have hs₂ : s₂ = ((({ U with heap := s₂.heap, slotsUsed := s₂.slotsUsed } : State).setVm s₂.vm).setTop g).pushFrame (.throwing q) := by
      refine e3.trans ?_
      rw [hf₂, State.calling_eq h.top, State.setFrames_setFrames, State.pushFrame, State.frames_setTop _ hr', State.setTop_of_frames _ hr', State.setFrames_setFrames, hr]
      rfl
    have hsame : U.sameButNew ({ U with heap := s₂.heap, slotsUsed := s₂.slotsUsed } : State) L mc ms := by
      refine ⟨?_, q2, q3, q4, q5, q6⟩
      obtain ⟨t, ht, -⟩ := State.frames_cons hr
      show ({ U with heap := s₂.heap, slotsUsed := s₂.slotsUsed } : State) = { U.setFrames U.frames with heap := s₂.heap, slotsUsed := s₂.slotsUsed }
      rw [State.setFrames_self ht]
    subst hg
    refine Or.inr ⟨q, ⟨(({ U with heap := s₂.heap, slotsUsed := s₂.slotsUsed } : State).setVm s₂.vm), Ls ++ L, c0 + mc, s0 + ms⟩,
      ⟨X.admits, X.cas, X.clock, X.frames, X.room, X.hears, X.method, X.code, (X.here.setHeapUsed s₂.heap s₂.slotsUsed).setVm hW'.alike, X.tail, State.WarmedH.trans X.warmed hW', X.limits, X.bytes, X.same.trans (hsame.setVm s.vm)⟩,
      ⟨g, mk, s₂, L, E, ce, rfl, rfl, hx, hce, hcv, hcl, rfl, hL, rfl, rfl⟩, ?_⟩
    show Steps p.tables e below _ (((({ U with heap := s₂.heap, slotsUsed := s₂.slotsUsed } : State).setVm s₂.vm).setTop g).pushFrame (.throwing q))
    rw [← hs₂]
    exact hsteps
end
variable {p : Program} {l : Launch} {e : Env} {R : Room} {s : State} {m : MethodId} {args : Array Value} {below : List Frame} {meth : Method} {c : Code} {T : State} {H : Heap} {locs : List Loc} {cells slots : Nat}
theorem vx_callVX (X : Stand p l e R s m args below meth c T locs cells slots) (hexec : p.tables.exec = Jvm.exec) {own C : String} {index : Nat} {y : MethodName} {bytes : ByteArray} {maxL : Nat} {ret : Option FieldType} {hh : List (Nat × Nat × Nat × Nat)}
    (hown : s.vm.findClass own = some m.cls) (hlink : (Cond.methodLink own index y).before args s = true) (hinst : (Cond.instanceMethod y).before args s = true) (hsel : (Cond.selects C y y).before args s = true)
    (hcode : (Cond.codeWith y bytes maxL ret hh).before args s = true) (hy : y.cls ≠ "java/lang/invoke/MethodHandle" ∧ y.cls ≠ "java/lang/invoke/VarHandle")
    {W9 : Nat} {Pre : Pt → Array Value → Prop} {Post : Pt → Array Value → Option Value → Pt → Prop} {PostX : Pt → Array Value → Addr → Pt → Prop} (hK : vx_Back l R p e below s args y 3 W9 Pre Post PostX)
    {b : Addr} {cellB : Cell} (hcell : T.heap[b]? = some cellB) (hobj : cellB.vm.isStatics = false) (hcls : s.vm.findClass C = some cellB.cls)
    {g : JFrame} (hg : g.method = m) (hsize : g.locals.size = c.maxLocals) {argsL rest : List Value} (hlen : ∀ sig, parseMethodDescriptor y.desc = some sig → argsL.length = sig.parameters.length)
    (hstack : g.stack = argsL.reverse ++ .ref b :: rest) (hW : 2 * g.monitorRoom + (rest.map fun v => v.category).sum ≤ W9) (hdg : decode c.code g.pc = .ok (.invokevirtual index, 3))
    (hpre : ∀ vm₁, s.WarmedH vm₁ → Pre ⟨T.setVm vm₁, locs, cells, slots⟩ (Value.ref b :: argsL).toArray) :
    (∃ (v : Option Value) (vm₁ : Vm) (B : Pt), s.WarmedH vm₁ ∧ Stand p l e R s m args below meth c B.U B.locs B.cells B.slots ∧ Post ⟨T.setVm vm₁, locs, cells, slots⟩ (Value.ref b :: argsL).toArray v B ∧
      ∀ target, Steps p.tables e below (B.U.setTop { g with pc := g.pc + 3, stack := v.toList ++ rest }) target → Steps p.tables e below (T.setTop g) target) ∨
    (∃ (q : Addr) (vm₁ : Vm) (B : Pt), s.WarmedH vm₁ ∧ Stand p l e R s m args below meth c B.U B.locs B.cells B.slots ∧ PostX ⟨T.setVm vm₁, locs, cells, slots⟩ (Value.ref b :: argsL).toArray q B ∧
      Steps p.tables e below (T.setTop g) ((B.U.setTop { g with stack := rest }).pushFrame (.throwing q))) := by
  obtain ⟨mk, methM, hnamed, hmethM, hstM, habM⟩ := Cond.instanceMethod_spec hinst
  obtain ⟨m8, methM', cM, hn8, hmethM', -, -, -, -, -, -, hsigM⟩ := Cond.codeWith_spec hcode
  cases Option.some.inj (hn8.symm.trans hnamed)
  cases hmethM.symm.trans hmethM'
  obtain ⟨c2, r2, m2, q1, q2, q3, q4, kP, hkP, hkPi⟩ := Cond.selects_spec hsel
  cases hcls.symm.trans q1
  cases (State.methodFound?_of_named hnamed hy).symm.trans q2
  cases hnamed.symm.trans q3
  have hselP : selectMethod e.platform s.vm cellB.cls mk = .method mk := by rw [Launch.admits_selectMethod X.admits]; exact q4
  obtain ⟨vm₁, X₁, hstep₁⟩ := X.invokevirtual hexec hown hlink hnamed hmethM hstM hkP hkPi hy (a := b) (cell := cellB) hcell
    (fun z h => by rw [h] at hobj; cases hobj) hselP hmethM habM hkP hkPi (g := g) hg (argsL := argsL) (rest := rest) (hlen _ hsigM) hstack hdg
  rcases hK m meth c ⟨T.setVm vm₁, locs, cells, slots⟩ { g with stack := rest } (.invokevirtual index) mk (Value.ref b :: argsL).toArray X₁ hg hsize hdg hW (X₁.named hnamed) (hpre vm₁ X₁.warmed) with ⟨v, B, X', hpost, hsteps⟩ | ⟨q, B, X', hpost, hsteps⟩
  · exact Or.inl ⟨v, vm₁, B, X₁.warmed, X', hpost, fun target h => hstep₁ _ fun acts => by rw [doInvoke_state]; exact hsteps.trans h⟩
  · exact Or.inr ⟨q, vm₁, B, X₁.warmed, X', hpost, hstep₁ _ fun acts => by rw [doInvoke_state]; exact hsteps⟩
theorem vx_callSX (X : Stand p l e R s m args below meth c T locs cells slots) (hexec : p.tables.exec = Jvm.exec) {own : String} {index : Nat} {y : MethodName} {bytes : ByteArray} {maxL : Nat} {ret : Option FieldType} {hh : List (Nat × Nat × Nat × Nat)}
    (hown : s.vm.findClass own = some m.cls) (hlink : (Cond.methodLink own index y).before args s = true) (hstat : (Cond.static y).before args s = true) (hinit : (Cond.initialized y.cls).before args s = true)
    (hcode : (Cond.codeWith y bytes maxL ret hh).before args s = true) (hy : y.cls ≠ "java/lang/invoke/MethodHandle" ∧ y.cls ≠ "java/lang/invoke/VarHandle")
    {W9 : Nat} {Pre : Pt → Array Value → Prop} {Post : Pt → Array Value → Option Value → Pt → Prop} {PostX : Pt → Array Value → Addr → Pt → Prop} (hK : vx_Back l R p e below s args y 3 W9 Pre Post PostX)
    {g : JFrame} (hg : g.method = m) (hsize : g.locals.size = c.maxLocals) {argsL rest : List Value} (hlen : ∀ sig, parseMethodDescriptor y.desc = some sig → argsL.length = sig.parameters.length)
    (hstack : g.stack = argsL.reverse ++ rest) (hW : 2 * g.monitorRoom + (rest.map fun v => v.category).sum ≤ W9) (hdg : decode c.code g.pc = .ok (.invokestatic index, 3))
    (hpre : ∀ vm₁, s.WarmedH vm₁ → Pre ⟨T.setVm vm₁, locs, cells, slots⟩ argsL.toArray) :
    (∃ (v : Option Value) (vm₁ : Vm) (B : Pt), s.WarmedH vm₁ ∧ Stand p l e R s m args below meth c B.U B.locs B.cells B.slots ∧ Post ⟨T.setVm vm₁, locs, cells, slots⟩ argsL.toArray v B ∧
      ∀ target, Steps p.tables e below (B.U.setTop { g with pc := g.pc + 3, stack := v.toList ++ rest }) target → Steps p.tables e below (T.setTop g) target) ∨
    (∃ (q : Addr) (vm₁ : Vm) (B : Pt), s.WarmedH vm₁ ∧ Stand p l e R s m args below meth c B.U B.locs B.cells B.slots ∧ PostX ⟨T.setVm vm₁, locs, cells, slots⟩ argsL.toArray q B ∧
      Steps p.tables e below (T.setTop g) ((B.U.setTop { g with stack := rest }).pushFrame (.throwing q))) := by
  obtain ⟨mk, methM, cM, hnamed, hmethM, -, -, -, -, -, -, hsigM⟩ := Cond.codeWith_spec hcode
  have hstatic : methM.isStatic = true := Cond.static_spec hnamed hmethM hstat
  obtain ⟨kP, hkP, -⟩ := className_of_methodNamed hnamed
  have hinitP : kP.init = .initialized := Cond.initialized_spec (findClass_of_methodNamed hnamed) hkP hinit
  obtain ⟨vm₁, X₁, hstep₁⟩ := X.invokestatic hexec hown hlink hnamed hmethM hstatic hkP hinitP hy (g := g) hg (argsL := argsL) (rest := rest) (hlen _ hsigM) hstack hdg
  rcases hK m meth c ⟨T.setVm vm₁, locs, cells, slots⟩ { g with stack := rest } (.invokestatic index) mk argsL.toArray X₁ hg hsize hdg hW (X₁.named hnamed) (hpre vm₁ X₁.warmed) with ⟨v, B, X', hpost, hsteps⟩ | ⟨q, B, X', hpost, hsteps⟩
  · exact Or.inl ⟨v, vm₁, B, X₁.warmed, X', hpost, fun target h => hstep₁ _ fun acts => by rw [doInvoke_state]; exact hsteps.trans h⟩
  · exact Or.inr ⟨q, vm₁, B, X₁.warmed, X', hpost, hstep₁ _ fun acts => by rw [doInvoke_state]; exact hsteps⟩
theorem vx_callVW (X : Stand p l e R s m args below meth c T locs cells slots) (hexec : p.tables.exec = Jvm.exec) {own C : String} {index : Nat} {y : MethodName} {bytes : ByteArray} {maxL : Nat} {ret : Option FieldType} {hh : List (Nat × Nat × Nat × Nat)}
    (hown : s.vm.findClass own = some m.cls) (hlink : (Cond.methodLink own index y).before args s = true) (hinst : (Cond.instanceMethod y).before args s = true) (hsel : (Cond.selects C y y).before args s = true)
    (hcode : (Cond.codeWith y bytes maxL ret hh).before args s = true) (hy : y.cls ≠ "java/lang/invoke/MethodHandle" ∧ y.cls ≠ "java/lang/invoke/VarHandle")
    {W9 : Nat} {Pre : Pt → Array Value → Prop} {Post : Pt → Array Value → Option Value → Pt → Prop} (hK : Back l R p e below s args y 3 W9 Pre Post)
    {b : Addr} {cellB : Cell} (hcell : T.heap[b]? = some cellB) (hobj : cellB.vm.isStatics = false) (hcls : s.vm.findClass C = some cellB.cls)
    {g : JFrame} (hg : g.method = m) (hsize : g.locals.size = c.maxLocals) {argsL rest : List Value} (hlen : ∀ sig, parseMethodDescriptor y.desc = some sig → argsL.length = sig.parameters.length)
    (hstack : g.stack = argsL.reverse ++ .ref b :: rest) (hW : 2 * g.monitorRoom + (rest.map fun v => v.category).sum ≤ W9) (hdg : decode c.code g.pc = .ok (.invokevirtual index, 3))
    (hpre : ∀ vm₁, s.WarmedH vm₁ → Pre ⟨T.setVm vm₁, locs, cells, slots⟩ (Value.ref b :: argsL).toArray) :
    ∃ (v : Option Value) (vm₁ : Vm) (B : Pt), s.WarmedH vm₁ ∧ Stand p l e R s m args below meth c B.U B.locs B.cells B.slots ∧ Post ⟨T.setVm vm₁, locs, cells, slots⟩ (Value.ref b :: argsL).toArray v B ∧
      ∀ target, Steps p.tables e below (B.U.setTop { g with pc := g.pc + 3, stack := v.toList ++ rest }) target → Steps p.tables e below (T.setTop g) target := by
  obtain ⟨mk, methM, hnamed, hmethM, hstM, habM⟩ := Cond.instanceMethod_spec hinst
  obtain ⟨m8, methM', cM, hn8, hmethM', -, -, -, -, -, -, hsigM⟩ := Cond.codeWith_spec hcode
  cases Option.some.inj (hn8.symm.trans hnamed)
  cases hmethM.symm.trans hmethM'
  obtain ⟨c2, r2, m2, q1, q2, q3, q4, kP, hkP, hkPi⟩ := Cond.selects_spec hsel
  cases hcls.symm.trans q1
  cases (State.methodFound?_of_named hnamed hy).symm.trans q2
  cases hnamed.symm.trans q3
  have hselP : selectMethod e.platform s.vm cellB.cls mk = .method mk := by rw [Launch.admits_selectMethod X.admits]; exact q4
  obtain ⟨vm₁, X₁, hstep₁⟩ := X.invokevirtual hexec hown hlink hnamed hmethM hstM hkP hkPi hy (a := b) (cell := cellB) hcell
    (fun z h => by rw [h] at hobj; cases hobj) hselP hmethM habM hkP hkPi (g := g) hg (argsL := argsL) (rest := rest) (hlen _ hsigM) hstack hdg
  obtain ⟨v, B, X', hpost, hsteps⟩ := hK m meth c ⟨T.setVm vm₁, locs, cells, slots⟩ { g with stack := rest } (.invokevirtual index) mk (Value.ref b :: argsL).toArray X₁ hg hsize hdg hW (X₁.named hnamed) (hpre vm₁ X₁.warmed)
  exact ⟨v, vm₁, B, X₁.warmed, X', hpost, fun target h => hstep₁ _ fun acts => by rw [doInvoke_state]; exact hsteps.trans h⟩
abbrev vx_CVW (R : Room) (s : State) (args : Array Value) (own C : String) (index : Nat) (y : MethodName) (bytes : ByteArray) (maxL : Nat) (ret : Option FieldType) (hh : List (Nat × Nat × Nat × Nat)) (ws : List Cond) (rm : Room) (mc ms n : Nat) : Prop :=
  (rm.cells = mc ∧ rm.slots = ms ∧ rm.frames + 1 ≤ R.frames ∧ 8 + (maxL + 11) + rm.locals ≤ R.locals ∧ (∀ w ∈ ws, ∀ (a' : Array Value) (U : State), s.WarmedH U.vm → w.before a' U = true) ∧ Cond.codeWith y bytes maxL ret hh ∈ ws) ∧
  (Cond.codeWith y bytes maxL ret hh).before args s = true ∧ (Cond.initialized y.cls).before args s = true ∧ (y.cls ≠ "java/lang/invoke/MethodHandle" ∧ y.cls ≠ "java/lang/invoke/VarHandle") ∧
  (∀ sig, parseMethodDescriptor y.desc = some sig → n = sig.parameters.length) ∧ (Cond.methodLink own index y).before args s = true ∧ (Cond.instanceMethod y).before args s = true ∧ (Cond.selects C y y).before args s = true
theorem vx_cwVW {own C : String} {index maxL mc ms : Nat} {y : MethodName} {bytes : ByteArray} {ret : Option FieldType} {hh : List (Nat × Nat × Nat × Nat)} {Ts ws ws' : List Cond} {rm : Room} (n : Nat) (ht : ∀ w ∈ Ts, w.before args s = true) (hT : GoodIn Ts (wsV own index C y ws)) (hw : ws = Cond.codeWith y bytes maxL ret hh :: ws') (hrc : rm.cells = mc) (hrs : rm.slots = ms)
    (hd : y.cls = C ∧ y.cls ≠ "java/lang/invoke/MethodHandle" ∧ y.cls ≠ "java/lang/invoke/VarHandle" ∧ (parseMethodDescriptor y.desc).map (fun d => d.parameters.length) = some n) (hR : rm.frames + 1 ≤ R.frames ∧ 8 + (maxL + 11) + rm.locals ≤ R.locals) :
    vx_CVW R s args own C index y bytes maxL ret hh ws rm mc ms n := by
  obtain ⟨hC, hd⟩ := hd
  subst hC
  have ok : ∀ w ∈ wsV own index y.cls y ws, w.before args s = true := fun w h => ht w (hT w h).1
  have hG : GoodIn Ts ws := fun w h => hT w (by unfold wsV; exact List.mem_append_right _ h)
  have hc : Cond.codeWith y bytes maxL ret hh ∈ ws := by rw [hw]; exact List.mem_cons_self
  refine ⟨⟨hrc, hrs, hR.1, hR.2, pay_in ht hG, hc⟩, ht _ (hG _ hc).1, ok _ (by simp [wsV]), ⟨hd.1, hd.2.1⟩, fun sig h => ?_, ok _ (by simp [wsV]), ok _ (by simp [wsV]), ok _ (by simp [wsV])⟩
  have h2 := hd.2.2
  rw [h] at h2
  exact (Option.some.inj h2).symm
theorem vx_runVW {y : MethodName} {bytes cc : ByteArray} {maxL nL mc ms n index : Nat} {ret : Option FieldType} {hh : List (Nat × Nat × Nat × Nat)} {ws : List Cond} {rm : Room} {Pc : Array Value → State → Prop} {Qc : Array Value → State → Outcome → State → Prop} {free : Addr → Prop} {Ts : List Cond} {own C : String} {b : Addr} {As rest : List Value} {g : JFrame}
    (S : CallFix p m c cc nL s args Ts own) (hM : Met l y ws rm Pc Qc mc ms free) (cw : vx_CVW R s args own C index y bytes maxL ret hh ws rm mc ms n) (hp : PreV s H C b Pc As)
    (hg : g.method = m) (hn : As.length = n) (hsize : g.locals.size = nL) (hstack : g.stack = As.reverse ++ .ref b :: rest) (hW : 2 * g.monitorRoom + (rest.map fun v => v.category).sum ≤ 8) (hdg : decode cc g.pc = .ok (.invokevirtual index, 3)) (hf : cells + mc ≤ R.cells ∧ slots + ms ≤ R.slots) :
    va_Run p l e R s m args below meth c H locs cells slots mc ms g rest (Qc (Value.ref b :: As).toArray) free := by
  obtain ⟨⟨hrc, hrs, hfr, hlo, hws, hcw⟩, hcode, hini, hy, hlen, hl, hin, hse⟩ := cw
  have hK : Back l R p e below s args y 3 8 (PreOf R mc ms Pc) (PostOf Qc mc ms free) := va_backW (hh := hh) (bytes := bytes) (maxL := maxL) (ret := ret) hM hp.1 hrc hrs hfr hlo hws hcw (fun a' U hW => word_at hW (Or.inl (by first | rfl | simp [Cond.onTables, Cond.keeps, Cond.steady])) hini)
  obtain ⟨hx, hb, hml, ho, -⟩ := S
  obtain ⟨-, ⟨cellB, hcB, hoB, hclB⟩, hPc⟩ := hp
  intro T hT X
  obtain ⟨v, vm₁, ⟨U', l2, c2, s2⟩, hW₁, X', ⟨g', mk, t, L, e1, e2, hq, h1, hL, h2, h3⟩, st⟩ := vx_callVW X hx (C := C) (hh := hh) (bytes := bytes) (maxL := maxL) (ret := ret) ho hl hin hse hcode hy hK (by rw [hT]; exact hcB) hoB hclB hg (hsize.trans hml.symm) (argsL := As) (rest := rest) (fun sig h => hn.trans (hlen sig h)) hstack hW (by rw [hb]; exact hdg)
    (fun vm₁ hW₁ => ⟨hf.1, hf.2, hPc (T.setVm vm₁) hT hW₁⟩)
  dsimp only [Pt.U, Pt.locs, Pt.cells, Pt.slots] at X' e1 e2 h1 h2 h3 st
  subst h1; subst h2; subst h3
  exact ⟨v, (T.setVm vm₁).calling g' mk (Value.ref b :: As).toArray, t, U', L, hT, X', hL, e1, e2, hq, st⟩
section
variable {y : MethodName} {bytes cc : ByteArray} {maxL nL mc ms n index : Nat} {ret : Option FieldType} {ws : List Cond} {rm : Room} {Pc : Array Value → State → Prop} {Qc : Array Value → State → Outcome → State → Prop} {XC : String → State → State → Prop} {free : Addr → Prop} {Ts : List Cond} {own C : String} {b : Addr} {As rest : List Value} {g : JFrame}
theorem vx_runVX {hh : List (Nat × Nat × Nat × Nat)} (S : CallFix p m c cc nL s args Ts own) (hM : vx_Met l y ws rm Pc Qc XC mc ms free) (cw : vx_CVW R s args own C index y bytes maxL ret hh ws rm mc ms n) (hp : PreV s H C b Pc As)
    (hg : g.method = m) (hn : As.length = n) (hsize : g.locals.size = nL) (hstack : g.stack = As.reverse ++ .ref b :: rest) (hW : 2 * g.monitorRoom + (rest.map fun v => v.category).sum ≤ 8) (hdg : decode cc g.pc = .ok (.invokevirtual index, 3)) (hf : cells + mc ≤ R.cells ∧ slots + ms ≤ R.slots) :
    vx_Run p l e R s m args below meth c H locs cells slots mc ms g rest (Qc (Value.ref b :: As).toArray) XC free := by
  obtain ⟨⟨hrc, hrs, hfr, hlo, hws, hcw⟩, hcode, hini, hy, hlen, hl, hin, hse⟩ := cw
  have hK : vx_Back l R p e below s args y 3 8 (PreOf R mc ms Pc) (PostOf Qc mc ms free) (vx_Post XC mc ms free) := vx_backW (hh := hh) (bytes := bytes) (maxL := maxL) (ret := ret) hM hp.1 hrc hrs hfr hlo hws hcw (fun a' U hW => word_at hW (Or.inl (by first | rfl | simp [Cond.onTables, Cond.keeps, Cond.steady])) hini)
  obtain ⟨hx, hb, hml, ho, -⟩ := S
  obtain ⟨-, ⟨cellB, hcB, hoB, hclB⟩, hPc⟩ := hp
  intro T hT X
  rcases vx_callVX X hx (C := C) (hh := hh) (bytes := bytes) (maxL := maxL) (ret := ret) ho hl hin hse hcode hy hK (by rw [hT]; exact hcB) hoB hclB hg (hsize.trans hml.symm) (argsL := As) (rest := rest) (fun sig h => hn.trans (hlen sig h)) hstack hW (by rw [hb]; exact hdg)
    (fun vm₁ hW₁ => ⟨hf.1, hf.2, hPc (T.setVm vm₁) hT hW₁⟩) with ⟨v, vm₁, ⟨U', l2, c2, s2⟩, hW₁, X', ⟨g', mk, t, L, e1, e2, hq, h1, hL, h2, h3⟩, st⟩ | ⟨q, vm₁, ⟨U', l2, c2, s2⟩, hW₁, X', ⟨g', mk, t, L, E, ce, e1, e2, hq, hce, hcv, hcl, h1, hL, h2, h3⟩, st⟩
  · dsimp only [Pt.U, Pt.locs, Pt.cells, Pt.slots] at X' e1 e2 h1 h2 h3 st
    subst h1; subst h2; subst h3
    exact Or.inl ⟨v, (T.setVm vm₁).calling g' mk (Value.ref b :: As).toArray, t, U', L, hT, X', hL, e1, e2, hq, st⟩
  · dsimp only [Pt.U, Pt.locs, Pt.cells, Pt.slots] at X' e1 e2 h1 h2 h3 st hcl
    subst h1; subst h2; subst h3
    exact Or.inr ⟨q, (T.setVm vm₁).calling g' mk (Value.ref b :: As).toArray, t, U', L, E, ce, hT, X', hL, e1, e2, hq, hce, hcv, vx_cls hW₁ hcl, st⟩
theorem vx_runSX {hh : List (Nat × Nat × Nat × Nat)} (S : CallFix p m c cc nL s args Ts own) (hM : vx_Met l y ws rm Pc Qc XC mc ms free) (cw : vx_CSW R s args own index y bytes maxL ret hh ws rm mc ms n) (hp : PreS s H Pc As)
    (hg : g.method = m) (hn : As.length = n) (hsize : g.locals.size = nL) (hstack : g.stack = As.reverse ++ rest) (hW : 2 * g.monitorRoom + (rest.map fun v => v.category).sum ≤ 8) (hdg : decode cc g.pc = .ok (.invokestatic index, 3)) (hf : cells + mc ≤ R.cells ∧ slots + ms ≤ R.slots) :
    vx_Run p l e R s m args below meth c H locs cells slots mc ms g rest (Qc As.toArray) XC free := by
  obtain ⟨⟨hrc, hrs, hfr, hlo, hws, hcw⟩, hcode, hini, hy, hlen, hl, hstt⟩ := cw
  have hK : vx_Back l R p e below s args y 3 8 (PreOf R mc ms Pc) (PostOf Qc mc ms free) (vx_Post XC mc ms free) := vx_backW (hh := hh) (bytes := bytes) (maxL := maxL) (ret := ret) hM hp.1 hrc hrs hfr hlo hws hcw (fun a' U hW => word_at hW (Or.inl (by first | rfl | simp [Cond.onTables, Cond.keeps, Cond.steady])) hini)
  obtain ⟨hx, hb, hml, ho, -⟩ := S
  intro T hT X
  rcases vx_callSX X hx (hh := hh) (bytes := bytes) (maxL := maxL) (ret := ret) ho hl hstt hini hcode hy hK hg (hsize.trans hml.symm) (argsL := As) (rest := rest) (fun sig h => hn.trans (hlen sig h)) hstack hW (by rw [hb]; exact hdg)
    (fun vm₁ hW₁ => ⟨hf.1, hf.2, hp.2 (T.setVm vm₁) hT hW₁⟩) with ⟨v, vm₁, ⟨U', l2, c2, s2⟩, hW₁, X', ⟨g', mk, t, L, e1, e2, hq, h1, hL, h2, h3⟩, st⟩ | ⟨q, vm₁, ⟨U', l2, c2, s2⟩, hW₁, X', ⟨g', mk, t, L, E, ce, e1, e2, hq, hce, hcv, hcl, h1, hL, h2, h3⟩, st⟩
  · dsimp only [Pt.U, Pt.locs, Pt.cells, Pt.slots] at X' e1 e2 h1 h2 h3 st
    subst h1; subst h2; subst h3
    exact Or.inl ⟨v, (T.setVm vm₁).calling g' mk As.toArray, t, U', L, hT, X', hL, e1, e2, hq, st⟩
  · dsimp only [Pt.U, Pt.locs, Pt.cells, Pt.slots] at X' e1 e2 h1 h2 h3 st hcl
    subst h1; subst h2; subst h3
    exact Or.inr ⟨q, (T.setVm vm₁).calling g' mk As.toArray, t, U', L, E, ce, hT, X', hL, e1, e2, hq, hce, hcv, vx_cls hW₁ hcl, st⟩
end
end VXH
theorem vx_ofWH {l : Launch} {y : MethodName} {ws ws' : List Cond} {rm : Room} {Pc : Array Value → State → Prop} {Qc : Array Value → State → Outcome → State → Prop} {XC : String → State → State → Prop} {mc ms : Nat} {free : Addr → Prop} {cc : ByteArray} {maxL : Nat} {ret : Option FieldType} {hh : List (Nat × Nat × Nat × Nat)}
    (hy : plainName y.cls = true) (hw : ws = Cond.codeWith y cc maxL ret hh :: ws')
    (body : ∀ p e s m args below meth c s₁, BodyLoose p l y (headSpec ws rm) cc maxL ret e s m args below meth c s₁ → c.maxLocals = maxL → Pc args s →
      W p l e (headSpec ws rm).room s m args below meth c s.heap [] 0 0 (vx_MQ below Qc XC args s mc ms free) (entryFrame m args maxL)) : vx_Met l y ws rm Pc Qc XC mc ms free := by
  refine MetFree.of_bodyS (code := cc) (maxLocals := maxL) (ret := ret) hy ?_ ?_
  · intro args s m h hn
    obtain ⟨m9, meth, c, hn9, h1, h2, h3, h4, -, h5, h6, -⟩ := Cond.codeWith_spec (atoms_spec (ws := ws) h _ (by rw [hw]; exact List.mem_cons_self))
    cases hn.symm.trans hn9
    exact ⟨meth, c, h1, h2, h3, h4, h5, h6⟩
  · intro p e s m args below meth c s₁ B hml hP _
    have hh0 : s₁.heap = s.heap := by rw [B.state]; rfl
    obtain ⟨t, a1, o, b1, b2, b3⟩ := body p e s m args below meth c s₁ B hml hP s₁ hh0 (Stand.of_body B)
    exact ⟨t, o, a1, b1, b2, b3⟩
/-! ===== END ===== -/
end
section
/-! ===== BEGIN printed: names, fields, word lists, decode rows ===== -/
def RX0 : String := "ToneGraph$Board"
def TX0 : u_T := fun k => match k with
  | 0 => ("ToneGraph$Board", "count", "I", false)
  | 1 => ("ToneGraph$Board", "output", "I", false)
  | 2 => ("ToneGraph$Board", "kind", "[C", true)
  | 3 => ("ToneGraph$Board", "gain", "[I", true)
  | 4 => ("ToneGraph$Board", "length", "[I", true)
  | 5 => ("ToneGraph$Board", "feedback", "[I", true)
  | 6 => ("ToneGraph$Board", "a", "[I", true)
  | 7 => ("ToneGraph$Board", "b", "[I", true)
  | 8 => ("ToneGraph$Board", "c", "[I", true)
  | 9 => ("ToneGraph$Board", "limit", "[I", true)
  | 10 => ("ToneGraph$Board", "wireCount", "[I", true)
  | 11 => ("ToneGraph$Board", "source", "[[I", true)
  | 12 => ("ToneGraph$Board", "share", "[[I", true)
  | _ => ("ToneGraph$Board", "order", "[I", true)
def tyX0 : Nat → FieldType := fun k => match k with
  | 0 => .int
  | 1 => .int
  | 2 => .array .char
  | 3 => .array .int
  | 4 => .array .int
  | 5 => .array .int
  | 6 => .array .int
  | 7 => .array .int
  | 8 => .array .int
  | 9 => .array .int
  | 10 => .array .int
  | 11 => .array (.array .int)
  | 12 => .array (.array .int)
  | _ => .array .int
abbrev wsX00 : List Cond := u_ws RX0 TX0 14
theorem nmX0 : ∀ a, a < 14 → ∀ b, b < 14 → a ≠ b → (TX0 a).2.1 ≠ (TX0 b).2.1 := by decide +kernel
theorem tyX0_ok : ∀ k, k < 14 → parseFieldDescriptor (TX0 k).2.2.1 = some (tyX0 k) := by decide +kernel
abbrev cX0_init : ByteArray := prog_2_method_1_code
def yX0_init : MethodName := ⟨RX0, "<init>", "()V"⟩
abbrev cX0_add : ByteArray := prog_2_method_2_code
def yX0_add : MethodName := ⟨RX0, "add", "(C)I"⟩
abbrev cX0_findWire : ByteArray := prog_2_method_3_code
def yX0_findWire : MethodName := ⟨RX0, "findWire", "(II)I"⟩
abbrev cX0_addWire : ByteArray := prog_2_method_4_code
def yX0_addWire : MethodName := ⟨RX0, "addWire", "(III)I"⟩
abbrev cX0_removeWire : ByteArray := prog_2_method_5_code
def yX0_removeWire : MethodName := ⟨RX0, "removeWire", "(II)I"⟩
abbrev cX0_closesBareCircle : ByteArray := prog_2_method_6_code
def yX0_closesBareCircle : MethodName := ⟨RX0, "closesBareCircle", "(II)Z"⟩
abbrev cX0_hasWireFrom : ByteArray := prog_2_method_7_code
def yX0_hasWireFrom : MethodName := ⟨RX0, "hasWireFrom", "(II)Z"⟩
abbrev cX0_arrange : ByteArray := prog_2_method_8_code
def yX0_arrange : MethodName := ⟨RX0, "arrange", "()V"⟩
abbrev cX0_lowestReady : ByteArray := prog_2_method_9_code
def yX0_lowestReady : MethodName := ⟨RX0, "lowestReady", "(I)I"⟩
abbrev cX0_isIn : ByteArray := prog_2_method_10_code
def yX0_isIn : MethodName := ⟨RX0, "isIn", "(II)Z"⟩
abbrev cX0_shortestDelay : ByteArray := prog_2_method_11_code
def yX0_shortestDelay : MethodName := ⟨RX0, "shortestDelay", "()I"⟩
abbrev cX0_isInOrder : ByteArray := prog_2_method_12_code
def yX0_isInOrder : MethodName := ⟨RX0, "isInOrder", "()Z"⟩
def RX1 : String := "ToneGraph$Choir"
def TX1 : u_T := fun k => match k with
  | 0 => ("ToneGraph$Choir", "voices", "[LToneGraph$Voice;", true)
  | 1 => ("ToneGraph$Choir", "clock", "I", false)
  | _ => ("ToneGraph$Choir", "thefts", "I", false)
def tyX1 : Nat → FieldType := fun k => match k with
  | 0 => .array (.object "ToneGraph$Voice")
  | 1 => .int
  | _ => .int
abbrev wsX10 : List Cond := u_ws RX1 TX1 3
theorem nmX1 : ∀ a, a < 3 → ∀ b, b < 3 → a ≠ b → (TX1 a).2.1 ≠ (TX1 b).2.1 := by decide +kernel
theorem tyX1_ok : ∀ k, k < 3 → parseFieldDescriptor (TX1 k).2.2.1 = some (tyX1 k) := by decide +kernel
abbrev cX1_init : ByteArray := prog_3_method_1_code
def yX1_init : MethodName := ⟨RX1, "<init>", "()V"⟩
abbrev cX1_copyFrom : ByteArray := prog_3_method_2_code
def yX1_copyFrom : MethodName := ⟨RX1, "copyFrom", "(LToneGraph$Choir;)V"⟩
abbrev cX1_startNote : ByteArray := prog_3_method_3_code
def yX1_startNote : MethodName := ⟨RX1, "startNote", "(IICLToneGraph$Envelope;)I"⟩
abbrev cX1_lowestFree : ByteArray := prog_3_method_4_code
def yX1_lowestFree : MethodName := ⟨RX1, "lowestFree", "()I"⟩
abbrev cX1_mostStealable : ByteArray := prog_3_method_5_code
def yX1_mostStealable : MethodName := ⟨RX1, "mostStealable", "()I"⟩
abbrev cX1_firstHeld : ByteArray := prog_3_method_6_code
def yX1_firstHeld : MethodName := ⟨RX1, "firstHeld", "(I)I"⟩
abbrev cX1_releaseNote : ByteArray := prog_3_method_7_code
def yX1_releaseNote : MethodName := ⟨RX1, "releaseNote", "(I)V"⟩
abbrev cX1_releaseEach : ByteArray := prog_3_method_8_code
def yX1_releaseEach : MethodName := ⟨RX1, "releaseEach", "()I"⟩
abbrev cX1_countPlaying : ByteArray := prog_3_method_9_code
def yX1_countPlaying : MethodName := ⟨RX1, "countPlaying", "()I"⟩
abbrev cX1_hasLevelsInRange : ByteArray := prog_3_method_10_code
def yX1_hasLevelsInRange : MethodName := ⟨RX1, "hasLevelsInRange", "()Z"⟩
def RX2 : String := "ToneGraph$Envelope"
def TX2 : u_T := fun k => match k with
  | 0 => ("ToneGraph$Envelope", "attack", "I", true)
  | 1 => ("ToneGraph$Envelope", "decay", "I", true)
  | 2 => ("ToneGraph$Envelope", "sustain", "I", true)
  | _ => ("ToneGraph$Envelope", "release", "I", true)
def tyX2 : Nat → FieldType := fun k => match k with
  | 0 => .int
  | 1 => .int
  | 2 => .int
  | _ => .int
abbrev wsX20 : List Cond := u_ws RX2 TX2 4
theorem nmX2 : ∀ a, a < 4 → ∀ b, b < 4 → a ≠ b → (TX2 a).2.1 ≠ (TX2 b).2.1 := by decide +kernel
theorem tyX2_ok : ∀ k, k < 4 → parseFieldDescriptor (TX2 k).2.2.1 = some (tyX2 k) := by decide +kernel
abbrev cX2_init : ByteArray := prog_4_method_1_code
def yX2_init : MethodName := ⟨RX2, "<init>", "(IIII)V"⟩
def RX3 : String := "ToneGraph$Meter"
def TX3 : u_T := fun k => match k with
  | 0 => ("ToneGraph$Meter", "row", "[I", true)
  | 1 => ("ToneGraph$Meter", "count", "I", false)
  | 2 => ("ToneGraph$Meter", "peak", "I", false)
  | 3 => ("ToneGraph$Meter", "squares", "J", false)
  | _ => ("ToneGraph$Meter", "zeros", "I", false)
def tyX3 : Nat → FieldType := fun k => match k with
  | 0 => .array .int
  | 1 => .int
  | 2 => .int
  | 3 => .long
  | _ => .int
abbrev wsX30 : List Cond := u_ws RX3 TX3 5
theorem nmX3 : ∀ a, a < 5 → ∀ b, b < 5 → a ≠ b → (TX3 a).2.1 ≠ (TX3 b).2.1 := by decide +kernel
theorem tyX3_ok : ∀ k, k < 5 → parseFieldDescriptor (TX3 k).2.2.1 = some (tyX3 k) := by decide +kernel
abbrev cX3_init : ByteArray := prog_5_method_1_code
def yX3_init : MethodName := ⟨RX3, "<init>", "()V"⟩
abbrev cX3_note : ByteArray := prog_5_method_2_code
def yX3_note : MethodName := ⟨RX3, "note", "(I)V"⟩
abbrev cX3_recall : ByteArray := prog_5_method_3_code
def yX3_recall : MethodName := ⟨RX3, "recall", "(I)I"⟩
def RX4 : String := "ToneGraph$Track"
def TX4 : u_T := fun k => match k with
  | 0 => ("ToneGraph$Track", "board", "LToneGraph$Board;", true)
  | 1 => ("ToneGraph$Track", "choir", "LToneGraph$Choir;", true)
  | 2 => ("ToneGraph$Track", "block", "[[I", true)
  | 3 => ("ToneGraph$Track", "latest", "[I", true)
  | 4 => ("ToneGraph$Track", "inputBefore", "[I", true)
  | 5 => ("ToneGraph$Track", "kept", "[[I", true)
  | _ => ("ToneGraph$Track", "oldest", "[I", true)
def tyX4 : Nat → FieldType := fun k => match k with
  | 0 => .object "ToneGraph$Board"
  | 1 => .object "ToneGraph$Choir"
  | 2 => .array (.array .int)
  | 3 => .array .int
  | 4 => .array .int
  | 5 => .array (.array .int)
  | _ => .array .int
abbrev wsX40 : List Cond := u_ws RX4 TX4 7
theorem nmX4 : ∀ a, a < 7 → ∀ b, b < 7 → a ≠ b → (TX4 a).2.1 ≠ (TX4 b).2.1 := by decide +kernel
theorem tyX4_ok : ∀ k, k < 7 → parseFieldDescriptor (TX4 k).2.2.1 = some (tyX4 k) := by decide +kernel
abbrev cX4_init : ByteArray := prog_6_method_1_code
def yX4_init : MethodName := ⟨RX4, "<init>", "(LToneGraph$Board;)V"⟩
abbrev cX4_copyFrom : ByteArray := prog_6_method_2_code
def yX4_copyFrom : MethodName := ⟨RX4, "copyFrom", "(LToneGraph$Track;)V"⟩
abbrev cX4_find : ByteArray := prog_6_method_3_code
def yX4_find : MethodName := ⟨RX4, "find", "(II[I)V"⟩
abbrev cX4_findBlock : ByteArray := prog_6_method_4_code
def yX4_findBlock : MethodName := ⟨RX4, "findBlock", "(I)V"⟩
abbrev cX4_findVoices : ByteArray := prog_6_method_5_code
def yX4_findVoices : MethodName := ⟨RX4, "findVoices", "(II)V"⟩
abbrev cX4_findGain : ByteArray := prog_6_method_6_code
def yX4_findGain : MethodName := ⟨RX4, "findGain", "(II)V"⟩
abbrev cX4_findDelay : ByteArray := prog_6_method_7_code
def yX4_findDelay : MethodName := ⟨RX4, "findDelay", "(II)V"⟩
abbrev cX4_feedDelay : ByteArray := prog_6_method_8_code
def yX4_feedDelay : MethodName := ⟨RX4, "feedDelay", "(II)V"⟩
abbrev cX4_nextOldest : ByteArray := prog_6_method_9_code
def yX4_nextOldest : MethodName := ⟨RX4, "nextOldest", "(II)I"⟩
abbrev cX4_findFilter : ByteArray := prog_6_method_10_code
def yX4_findFilter : MethodName := ⟨RX4, "findFilter", "(II)V"⟩
abbrev cX4_findBus : ByteArray := prog_6_method_11_code
def yX4_findBus : MethodName := ⟨RX4, "findBus", "(II)V"⟩
abbrev cX4_limited : ByteArray := prog_6_method_12_code
def yX4_limited : MethodName := ⟨RX4, "limited", "(II)I"⟩
abbrev cX4_inputAt : ByteArray := prog_6_method_13_code
def yX4_inputAt : MethodName := ⟨RX4, "inputAt", "(II)I"⟩
def RX5 : String := "ToneGraph$Voice"
def TX5 : u_T := fun k => match k with
  | 0 => ("ToneGraph$Voice", "playing", "Z", false)
  | 1 => ("ToneGraph$Voice", "released", "Z", false)
  | 2 => ("ToneGraph$Voice", "key", "I", false)
  | 3 => ("ToneGraph$Voice", "velocity", "I", false)
  | 4 => ("ToneGraph$Voice", "wave", "C", false)
  | 5 => ("ToneGraph$Voice", "envelope", "LToneGraph$Envelope;", false)
  | 6 => ("ToneGraph$Voice", "stride", "I", false)
  | 7 => ("ToneGraph$Voice", "phase", "I", false)
  | 8 => ("ToneGraph$Voice", "begun", "I", false)
  | 9 => ("ToneGraph$Voice", "ended", "I", false)
  | 10 => ("ToneGraph$Voice", "samples", "I", false)
  | 11 => ("ToneGraph$Voice", "levelAtRelease", "I", false)
  | _ => ("ToneGraph$Voice", "samplesReleased", "I", false)
def tyX5 : Nat → FieldType := fun k => match k with
  | 0 => .boolean
  | 1 => .boolean
  | 2 => .int
  | 3 => .int
  | 4 => .char
  | 5 => .object "ToneGraph$Envelope"
  | 6 => .int
  | 7 => .int
  | 8 => .int
  | 9 => .int
  | 10 => .int
  | 11 => .int
  | _ => .int
abbrev wsX50 : List Cond := u_ws RX5 TX5 13
theorem nmX5 : ∀ a, a < 13 → ∀ b, b < 13 → a ≠ b → (TX5 a).2.1 ≠ (TX5 b).2.1 := by decide +kernel
theorem tyX5_ok : ∀ k, k < 13 → parseFieldDescriptor (TX5 k).2.2.1 = some (tyX5 k) := by decide +kernel
abbrev cX5_init : ByteArray := prog_7_method_1_code
def yX5_init : MethodName := ⟨RX5, "<init>", "()V"⟩
abbrev cX5_start : ByteArray := prog_7_method_2_code
def yX5_start : MethodName := ⟨RX5, "start", "(IICLToneGraph$Envelope;I)V"⟩
abbrev cX5_release : ByteArray := prog_7_method_3_code
def yX5_release : MethodName := ⟨RX5, "release", "(I)V"⟩
abbrev cX5_addSamples : ByteArray := prog_7_method_4_code
def yX5_addSamples : MethodName := ⟨RX5, "addSamples", "([II)V"⟩
abbrev cX5_moveOn : ByteArray := prog_7_method_5_code
def yX5_moveOn : MethodName := ⟨RX5, "moveOn", "()V"⟩
abbrev cX5_holds : ByteArray := prog_7_method_6_code
def yX5_holds : MethodName := ⟨RX5, "holds", "(I)Z"⟩
abbrev cX5_isStolenBefore : ByteArray := prog_7_method_7_code
def yX5_isStolenBefore : MethodName := ⟨RX5, "isStolenBefore", "(LToneGraph$Voice;)Z"⟩
abbrev cX5_level : ByteArray := prog_7_method_8_code
def yX5_level : MethodName := ⟨RX5, "level", "()I"⟩
abbrev cX5_stage : ByteArray := prog_7_method_9_code
def yX5_stage : MethodName := ⟨RX5, "stage", "()C"⟩
abbrev cX5_waveValue : ByteArray := prog_7_method_10_code
def yX5_waveValue : MethodName := ⟨RX5, "waveValue", "()I"⟩
abbrev cX5_copyFrom : ByteArray := prog_7_method_11_code
def yX5_copyFrom : MethodName := ⟨RX5, "copyFrom", "(LToneGraph$Voice;)V"⟩
def RX6 : String := "ToneGraph"
def TX6 : u_T := fun k => match k with
  | 0 => ("ToneGraph", "board", "LToneGraph$Board;", true)
  | 1 => ("ToneGraph", "live", "LToneGraph$Track;", true)
  | 2 => ("ToneGraph", "trial", "LToneGraph$Track;", true)
  | 3 => ("ToneGraph", "meter", "LToneGraph$Meter;", true)
  | 4 => ("ToneGraph", "found", "[I", true)
  | 5 => ("ToneGraph", "foundByBlocks", "[I", true)
  | 6 => ("ToneGraph", "wave", "C", false)
  | _ => ("ToneGraph", "envelope", "LToneGraph$Envelope;", false)
def tyX6 : Nat → FieldType := fun k => match k with
  | 0 => .object "ToneGraph$Board"
  | 1 => .object "ToneGraph$Track"
  | 2 => .object "ToneGraph$Track"
  | 3 => .object "ToneGraph$Meter"
  | 4 => .array .int
  | 5 => .array .int
  | 6 => .char
  | _ => .object "ToneGraph$Envelope"
abbrev wsX60 : List Cond := u_ws RX6 TX6 8
theorem nmX6 : ∀ a, a < 8 → ∀ b, b < 8 → a ≠ b → (TX6 a).2.1 ≠ (TX6 b).2.1 := by decide +kernel
theorem tyX6_ok : ∀ k, k < 8 → parseFieldDescriptor (TX6 k).2.2.1 = some (tyX6 k) := by decide +kernel
abbrev cX6_init : ByteArray := prog_1_method_1_code
def yX6_init : MethodName := ⟨RX6, "<init>", "()V"⟩
abbrev cX6_addGain : ByteArray := prog_1_method_2_code
def yX6_addGain : MethodName := ⟨RX6, "addGain", "(I)I"⟩
abbrev cX6_addDelay : ByteArray := prog_1_method_3_code
def yX6_addDelay : MethodName := ⟨RX6, "addDelay", "(II)I"⟩
abbrev cX6_addFilter : ByteArray := prog_1_method_4_code
def yX6_addFilter : MethodName := ⟨RX6, "addFilter", "(III)I"⟩
abbrev cX6_addBus : ByteArray := prog_1_method_5_code
def yX6_addBus : MethodName := ⟨RX6, "addBus", "(I)I"⟩
abbrev cX6_connect : ByteArray := prog_1_method_6_code
def yX6_connect : MethodName := ⟨RX6, "connect", "(III)I"⟩
abbrev cX6_disconnect : ByteArray := prog_1_method_7_code
def yX6_disconnect : MethodName := ⟨RX6, "disconnect", "(II)I"⟩
abbrev cX6_setGain : ByteArray := prog_1_method_8_code
def yX6_setGain : MethodName := ⟨RX6, "setGain", "(II)I"⟩
abbrev cX6_setOutput : ByteArray := prog_1_method_9_code
def yX6_setOutput : MethodName := ⟨RX6, "setOutput", "(I)I"⟩
abbrev cX6_nodes : ByteArray := prog_1_method_10_code
def yX6_nodes : MethodName := ⟨RX6, "nodes", "()I"⟩
abbrev cX6_kindOf : ByteArray := prog_1_method_11_code
def yX6_kindOf : MethodName := ⟨RX6, "kindOf", "(I)C"⟩
abbrev cX6_wires : ByteArray := prog_1_method_12_code
def yX6_wires : MethodName := ⟨RX6, "wires", "(I)I"⟩
abbrev cX6_wireFrom : ByteArray := prog_1_method_13_code
def yX6_wireFrom : MethodName := ⟨RX6, "wireFrom", "(II)I"⟩
abbrev cX6_wirePercent : ByteArray := prog_1_method_14_code
def yX6_wirePercent : MethodName := ⟨RX6, "wirePercent", "(II)I"⟩
abbrev cX6_nodeAt : ByteArray := prog_1_method_15_code
def yX6_nodeAt : MethodName := ⟨RX6, "nodeAt", "(I)I"⟩
abbrev cX6_longestBlock : ByteArray := prog_1_method_16_code
def yX6_longestBlock : MethodName := ⟨RX6, "longestBlock", "()I"⟩
abbrev cX6_setWave : ByteArray := prog_1_method_17_code
def yX6_setWave : MethodName := ⟨RX6, "setWave", "(C)C"⟩
abbrev cX6_setEnvelope : ByteArray := prog_1_method_18_code
def yX6_setEnvelope : MethodName := ⟨RX6, "setEnvelope", "(IIII)I"⟩
abbrev cX6_begin : ByteArray := prog_1_method_19_code
def yX6_begin : MethodName := ⟨RX6, "begin", "(II)I"⟩
abbrev cX6_end : ByteArray := prog_1_method_20_code
def yX6_end : MethodName := ⟨RX6, "end", "(I)I"⟩
abbrev cX6_endAll : ByteArray := prog_1_method_21_code
def yX6_endAll : MethodName := ⟨RX6, "endAll", "()I"⟩
abbrev cX6_sounding : ByteArray := prog_1_method_22_code
def yX6_sounding : MethodName := ⟨RX6, "sounding", "()I"⟩
abbrev cX6_stateOf : ByteArray := prog_1_method_23_code
def yX6_stateOf : MethodName := ⟨RX6, "stateOf", "(I)C"⟩
abbrev cX6_keyOf : ByteArray := prog_1_method_24_code
def yX6_keyOf : MethodName := ⟨RX6, "keyOf", "(I)I"⟩
abbrev cX6_levelOf : ByteArray := prog_1_method_25_code
def yX6_levelOf : MethodName := ⟨RX6, "levelOf", "(I)I"⟩
abbrev cX6_phaseOf : ByteArray := prog_1_method_26_code
def yX6_phaseOf : MethodName := ⟨RX6, "phaseOf", "(I)I"⟩
abbrev cX6_stolen : ByteArray := prog_1_method_27_code
def yX6_stolen : MethodName := ⟨RX6, "stolen", "()I"⟩
abbrev cX6_play : ByteArray := prog_1_method_28_code
def yX6_play : MethodName := ⟨RX6, "play", "(I)I"⟩
abbrev cX6_step : ByteArray := prog_1_method_29_code
def yX6_step : MethodName := ⟨RX6, "step", "()I"⟩
abbrev cX6_ahead : ByteArray := prog_1_method_30_code
def yX6_ahead : MethodName := ⟨RX6, "ahead", "(I)I"⟩
abbrev cX6_aheadByBlocks : ByteArray := prog_1_method_31_code
def yX6_aheadByBlocks : MethodName := ⟨RX6, "aheadByBlocks", "(II)I"⟩
abbrev cX6_heard : ByteArray := prog_1_method_32_code
def yX6_heard : MethodName := ⟨RX6, "heard", "(I)I"⟩
abbrev cX6_outputOf : ByteArray := prog_1_method_33_code
def yX6_outputOf : MethodName := ⟨RX6, "outputOf", "(I)I"⟩
abbrev cX6_time : ByteArray := prog_1_method_34_code
def yX6_time : MethodName := ⟨RX6, "time", "()I"⟩
abbrev cX6_greatest : ByteArray := prog_1_method_35_code
def yX6_greatest : MethodName := ⟨RX6, "greatest", "()I"⟩
abbrev cX6_energy : ByteArray := prog_1_method_36_code
def yX6_energy : MethodName := ⟨RX6, "energy", "()J"⟩
abbrev cX6_meanEnergy : ByteArray := prog_1_method_37_code
def yX6_meanEnergy : MethodName := ⟨RX6, "meanEnergy", "()D"⟩
abbrev cX6_quietShare : ByteArray := prog_1_method_38_code
def yX6_quietShare : MethodName := ⟨RX6, "quietShare", "()F"⟩
abbrev cX6_isConsistent : ByteArray := prog_1_method_39_code
def yX6_isConsistent : MethodName := ⟨RX6, "isConsistent", "()Z"⟩
abbrev cX6_perform : ByteArray := prog_1_method_40_code
def yX6_perform : MethodName := ⟨RX6, "perform", "(II)I"⟩
abbrev cX6_lookAhead : ByteArray := prog_1_method_41_code
def yX6_lookAhead : MethodName := ⟨RX6, "lookAhead", "(II[I)V"⟩
abbrev cX6_refuseOutside : ByteArray := prog_1_method_42_code
def yX6_refuseOutside : MethodName := ⟨RX6, "refuseOutside", "(III)V"⟩
abbrev cX6_refuseNoKey : ByteArray := prog_1_method_43_code
def yX6_refuseNoKey : MethodName := ⟨RX6, "refuseNoKey", "(I)V"⟩
abbrev cX6_refuseNoVoice : ByteArray := prog_1_method_44_code
def yX6_refuseNoVoice : MethodName := ⟨RX6, "refuseNoVoice", "(I)V"⟩
abbrev cX6_refuseFullBoard : ByteArray := prog_1_method_45_code
def yX6_refuseFullBoard : MethodName := ⟨RX6, "refuseFullBoard", "()V"⟩
abbrev cX6_refuseNoNode : ByteArray := prog_1_method_46_code
def yX6_refuseNoNode : MethodName := ⟨RX6, "refuseNoNode", "(I)V"⟩
abbrev cX6_refuseNoWire : ByteArray := prog_1_method_47_code
def yX6_refuseNoWire : MethodName := ⟨RX6, "refuseNoWire", "(II)V"⟩
abbrev cX6_refuseFree : ByteArray := prog_1_method_48_code
def yX6_refuseFree : MethodName := ⟨RX6, "refuseFree", "(I)V"⟩
abbrev cX6_refuseSilence : ByteArray := prog_1_method_49_code
def yX6_refuseSilence : MethodName := ⟨RX6, "refuseSilence", "()V"⟩
abbrev cX6_cut : ByteArray := prog_1_method_50_code
def yX6_cut : MethodName := ⟨RX6, "cut", "(I)I"⟩
abbrev cX6_partOf : ByteArray := prog_1_method_51_code
def yX6_partOf : MethodName := ⟨RX6, "partOf", "(II)I"⟩
abbrev cX6_stepOfKey : ByteArray := prog_1_method_52_code
def yX6_stepOfKey : MethodName := ⟨RX6, "stepOfKey", "(I)I"⟩
def RX7 : String := "ToneGraphModel"
def TX7 : u_T := fun k => match k with
  | 0 => ("ToneGraphModel", "now", "[I", true)
  | 1 => ("ToneGraphModel", "spare", "[I", true)
  | 2 => ("ToneGraphModel", "kinds", "[I", true)
  | 3 => ("ToneGraphModel", "firsts", "[I", true)
  | 4 => ("ToneGraphModel", "seconds", "[I", true)
  | 5 => ("ToneGraphModel", "thirds", "[I", true)
  | 6 => ("ToneGraphModel", "sources", "[I", true)
  | 7 => ("ToneGraphModel", "percents", "[I", true)
  | 8 => ("ToneGraphModel", "counts", "[I", true)
  | 9 => ("ToneGraphModel", "order", "[I", true)
  | 10 => ("ToneGraphModel", "heard", "[I", true)
  | 11 => ("ToneGraphModel", "isIn", "[Z", true)
  | 12 => ("ToneGraphModel", "thrown", "I", false)
  | 13 => ("ToneGraphModel", "nodes", "I", false)
  | 14 => ("ToneGraphModel", "output", "I", false)
  | 15 => ("ToneGraphModel", "wave", "I", false)
  | 16 => ("ToneGraphModel", "attack", "I", false)
  | 17 => ("ToneGraphModel", "decay", "I", false)
  | 18 => ("ToneGraphModel", "sustain", "I", false)
  | 19 => ("ToneGraphModel", "release", "I", false)
  | 20 => ("ToneGraphModel", "stolen", "I", false)
  | 21 => ("ToneGraphModel", "calls", "I", false)
  | 22 => ("ToneGraphModel", "time", "I", false)
  | 23 => ("ToneGraphModel", "greatest", "I", false)
  | 24 => ("ToneGraphModel", "quiet", "I", false)
  | _ => ("ToneGraphModel", "energy", "J", false)
def tyX7 : Nat → FieldType := fun k => match k with
  | 0 => .array .int
  | 1 => .array .int
  | 2 => .array .int
  | 3 => .array .int
  | 4 => .array .int
  | 5 => .array .int
  | 6 => .array .int
  | 7 => .array .int
  | 8 => .array .int
  | 9 => .array .int
  | 10 => .array .int
  | 11 => .array .boolean
  | 12 => .int
  | 13 => .int
  | 14 => .int
  | 15 => .int
  | 16 => .int
  | 17 => .int
  | 18 => .int
  | 19 => .int
  | 20 => .int
  | 21 => .int
  | 22 => .int
  | 23 => .int
  | 24 => .int
  | _ => .long
abbrev wsX70 : List Cond := u_ws RX7 TX7 26
theorem nmX7 : ∀ a, a < 26 → ∀ b, b < 26 → a ≠ b → (TX7 a).2.1 ≠ (TX7 b).2.1 := by decide +kernel
theorem tyX7_ok : ∀ k, k < 26 → parseFieldDescriptor (TX7 k).2.2.1 = some (tyX7 k) := by decide +kernel
abbrev cX7_init : ByteArray := prog_9_method_1_code
def yX7_init : MethodName := ⟨RX7, "<init>", "()V"⟩
abbrev cX7_thrown : ByteArray := prog_9_method_2_code
def yX7_thrown : MethodName := ⟨RX7, "thrown", "()I"⟩
abbrev cX7_in : ByteArray := prog_9_method_3_code
def yX7_in : MethodName := ⟨RX7, "in", "(III)Z"⟩
abbrev cX7_plain : ByteArray := prog_9_method_4_code
def yX7_plain : MethodName := ⟨RX7, "plain", "(I)I"⟩
abbrev cX7_checked : ByteArray := prog_9_method_5_code
def yX7_checked : MethodName := ⟨RX7, "checked", "(Z)I"⟩
abbrev cX7_isNode : ByteArray := prog_9_method_6_code
def yX7_isNode : MethodName := ⟨RX7, "isNode", "(I)Z"⟩
abbrev cX7_cut : ByteArray := prog_9_method_7_code
def yX7_cut : MethodName := ⟨RX7, "cut", "(I)I"⟩
abbrev cX7_size : ByteArray := prog_9_method_8_code
def yX7_size : MethodName := ⟨RX7, "size", "(I)I"⟩
abbrev cX7_adds : ByteArray := prog_9_method_9_code
def yX7_adds : MethodName := ⟨RX7, "adds", "(IIII)I"⟩
abbrev cX7_isFull : ByteArray := prog_9_method_10_code
def yX7_isFull : MethodName := ⟨RX7, "isFull", "(Z)Z"⟩
abbrev cX7_addGain : ByteArray := prog_9_method_11_code
def yX7_addGain : MethodName := ⟨RX7, "addGain", "(I)I"⟩
abbrev cX7_addDelay : ByteArray := prog_9_method_12_code
def yX7_addDelay : MethodName := ⟨RX7, "addDelay", "(II)I"⟩
abbrev cX7_addFilter : ByteArray := prog_9_method_13_code
def yX7_addFilter : MethodName := ⟨RX7, "addFilter", "(III)I"⟩
abbrev cX7_addBus : ByteArray := prog_9_method_14_code
def yX7_addBus : MethodName := ⟨RX7, "addBus", "(I)I"⟩
abbrev cX7_wire : ByteArray := prog_9_method_15_code
def yX7_wire : MethodName := ⟨RX7, "wire", "(II)I"⟩
abbrev cX7_leads : ByteArray := prog_9_method_16_code
def yX7_leads : MethodName := ⟨RX7, "leads", "(II)Z"⟩
abbrev cX7_connect : ByteArray := prog_9_method_17_code
def yX7_connect : MethodName := ⟨RX7, "connect", "(III)I"⟩
abbrev cX7_disconnect : ByteArray := prog_9_method_18_code
def yX7_disconnect : MethodName := ⟨RX7, "disconnect", "(II)I"⟩
abbrev cX7_canCome : ByteArray := prog_9_method_19_code
def yX7_canCome : MethodName := ⟨RX7, "canCome", "(I)Z"⟩
abbrev cX7_lays : ByteArray := prog_9_method_20_code
def yX7_lays : MethodName := ⟨RX7, "lays", "()V"⟩
abbrev cX7_setGain : ByteArray := prog_9_method_21_code
def yX7_setGain : MethodName := ⟨RX7, "setGain", "(II)I"⟩
abbrev cX7_setOutput : ByteArray := prog_9_method_22_code
def yX7_setOutput : MethodName := ⟨RX7, "setOutput", "(I)I"⟩
abbrev cX7_nodes : ByteArray := prog_9_method_23_code
def yX7_nodes : MethodName := ⟨RX7, "nodes", "()I"⟩
abbrev cX7_kindOf : ByteArray := prog_9_method_24_code
def yX7_kindOf : MethodName := ⟨RX7, "kindOf", "(I)C"⟩
abbrev cX7_wires : ByteArray := prog_9_method_25_code
def yX7_wires : MethodName := ⟨RX7, "wires", "(I)I"⟩
abbrev cX7_hasNoWire : ByteArray := prog_9_method_26_code
def yX7_hasNoWire : MethodName := ⟨RX7, "hasNoWire", "(II)Z"⟩
abbrev cX7_wireFrom : ByteArray := prog_9_method_27_code
def yX7_wireFrom : MethodName := ⟨RX7, "wireFrom", "(II)I"⟩
abbrev cX7_wirePercent : ByteArray := prog_9_method_28_code
def yX7_wirePercent : MethodName := ⟨RX7, "wirePercent", "(II)I"⟩
abbrev cX7_nodeAt : ByteArray := prog_9_method_29_code
def yX7_nodeAt : MethodName := ⟨RX7, "nodeAt", "(I)I"⟩
abbrev cX7_longestBlock : ByteArray := prog_9_method_30_code
def yX7_longestBlock : MethodName := ⟨RX7, "longestBlock", "()I"⟩
abbrev cX7_setWave : ByteArray := prog_9_method_31_code
def yX7_setWave : MethodName := ⟨RX7, "setWave", "(C)C"⟩
abbrev cX7_setEnvelope : ByteArray := prog_9_method_32_code
def yX7_setEnvelope : MethodName := ⟨RX7, "setEnvelope", "(IIII)I"⟩
abbrev cX7_at : ByteArray := prog_9_method_33_code
def yX7_at : MethodName := ⟨RX7, "at", "(II)I"⟩
abbrev cX7_lay : ByteArray := prog_9_method_34_code
def yX7_lay : MethodName := ⟨RX7, "lay", "(III)V"⟩
abbrev cX7_plays : ByteArray := prog_9_method_35_code
def yX7_plays : MethodName := ⟨RX7, "plays", "(I)Z"⟩
abbrev cX7_isReleased : ByteArray := prog_9_method_36_code
def yX7_isReleased : MethodName := ⟨RX7, "isReleased", "(I)Z"⟩
abbrev cX7_isHeld : ByteArray := prog_9_method_37_code
def yX7_isHeld : MethodName := ⟨RX7, "isHeld", "(I)Z"⟩
abbrev cX7_voiceFor : ByteArray := prog_9_method_38_code
def yX7_voiceFor : MethodName := ⟨RX7, "voiceFor", "()I"⟩
abbrev cX7_begin : ByteArray := prog_9_method_39_code
def yX7_begin : MethodName := ⟨RX7, "begin", "(II)I"⟩
abbrev cX7_levelAt : ByteArray := prog_9_method_40_code
def yX7_levelAt : MethodName := ⟨RX7, "levelAt", "(I)I"⟩
abbrev cX7_releases : ByteArray := prog_9_method_41_code
def yX7_releases : MethodName := ⟨RX7, "releases", "(I)V"⟩
abbrev cX7_end : ByteArray := prog_9_method_42_code
def yX7_end : MethodName := ⟨RX7, "end", "(I)I"⟩
abbrev cX7_endAll : ByteArray := prog_9_method_43_code
def yX7_endAll : MethodName := ⟨RX7, "endAll", "()I"⟩
abbrev cX7_sounding : ByteArray := prog_9_method_44_code
def yX7_sounding : MethodName := ⟨RX7, "sounding", "()I"⟩
abbrev cX7_isVoice : ByteArray := prog_9_method_45_code
def yX7_isVoice : MethodName := ⟨RX7, "isVoice", "(I)Z"⟩
abbrev cX7_stateOf : ByteArray := prog_9_method_46_code
def yX7_stateOf : MethodName := ⟨RX7, "stateOf", "(I)C"⟩
abbrev cX7_isSilent : ByteArray := prog_9_method_47_code
def yX7_isSilent : MethodName := ⟨RX7, "isSilent", "(I)Z"⟩
abbrev cX7_keyOf : ByteArray := prog_9_method_48_code
def yX7_keyOf : MethodName := ⟨RX7, "keyOf", "(I)I"⟩
abbrev cX7_levelOf : ByteArray := prog_9_method_49_code
def yX7_levelOf : MethodName := ⟨RX7, "levelOf", "(I)I"⟩
abbrev cX7_phaseOf : ByteArray := prog_9_method_50_code
def yX7_phaseOf : MethodName := ⟨RX7, "phaseOf", "(I)I"⟩
abbrev cX7_stolen : ByteArray := prog_9_method_51_code
def yX7_stolen : MethodName := ⟨RX7, "stolen", "()I"⟩
abbrev cX7_baseOf : ByteArray := prog_9_method_52_code
def yX7_baseOf : MethodName := ⟨RX7, "baseOf", "(I)I"⟩
abbrev cX7_stepOf : ByteArray := prog_9_method_53_code
def yX7_stepOf : MethodName := ⟨RX7, "stepOf", "(I)I"⟩
abbrev cX7_valueOf : ByteArray := prog_9_method_54_code
def yX7_valueOf : MethodName := ⟨RX7, "valueOf", "(II)I"⟩
abbrev cX7_sings : ByteArray := prog_9_method_55_code
def yX7_sings : MethodName := ⟨RX7, "sings", "(I)I"⟩
abbrev cX7_inputOf : ByteArray := prog_9_method_56_code
def yX7_inputOf : MethodName := ⟨RX7, "inputOf", "(I)I"⟩
abbrev cX7_sung : ByteArray := prog_9_method_57_code
def yX7_sung : MethodName := ⟨RX7, "sung", "()I"⟩
abbrev cX7_filtered : ByteArray := prog_9_method_58_code
def yX7_filtered : MethodName := ⟨RX7, "filtered", "(I)I"⟩
abbrev cX7_limited : ByteArray := prog_9_method_59_code
def yX7_limited : MethodName := ⟨RX7, "limited", "(II)I"⟩
abbrev cX7_sounds : ByteArray := prog_9_method_60_code
def yX7_sounds : MethodName := ⟨RX7, "sounds", "(I)I"⟩
abbrev cX7_samples : ByteArray := prog_9_method_61_code
def yX7_samples : MethodName := ⟨RX7, "samples", "()I"⟩
abbrev cX7_sampled : ByteArray := prog_9_method_62_code
def yX7_sampled : MethodName := ⟨RX7, "sampled", "()I"⟩
abbrev cX7_play : ByteArray := prog_9_method_63_code
def yX7_play : MethodName := ⟨RX7, "play", "(I)I"⟩
abbrev cX7_step : ByteArray := prog_9_method_64_code
def yX7_step : MethodName := ⟨RX7, "step", "()I"⟩
abbrev cX7_foreseen : ByteArray := prog_9_method_65_code
def yX7_foreseen : MethodName := ⟨RX7, "foreseen", "(I)I"⟩
abbrev cX7_ahead : ByteArray := prog_9_method_66_code
def yX7_ahead : MethodName := ⟨RX7, "ahead", "(I)I"⟩
abbrev cX7_aheadByBlocks : ByteArray := prog_9_method_67_code
def yX7_aheadByBlocks : MethodName := ⟨RX7, "aheadByBlocks", "(II)I"⟩
abbrev cX7_heard : ByteArray := prog_9_method_68_code
def yX7_heard : MethodName := ⟨RX7, "heard", "(I)I"⟩
abbrev cX7_outputOf : ByteArray := prog_9_method_69_code
def yX7_outputOf : MethodName := ⟨RX7, "outputOf", "(I)I"⟩
abbrev cX7_time : ByteArray := prog_9_method_70_code
def yX7_time : MethodName := ⟨RX7, "time", "()I"⟩
abbrev cX7_greatest : ByteArray := prog_9_method_71_code
def yX7_greatest : MethodName := ⟨RX7, "greatest", "()I"⟩
abbrev cX7_energy : ByteArray := prog_9_method_72_code
def yX7_energy : MethodName := ⟨RX7, "energy", "()J"⟩
abbrev cX7_meanEnergy : ByteArray := prog_9_method_73_code
def yX7_meanEnergy : MethodName := ⟨RX7, "meanEnergy", "()D"⟩
abbrev cX7_quietShare : ByteArray := prog_9_method_74_code
def yX7_quietShare : MethodName := ⟨RX7, "quietShare", "()F"⟩
abbrev cX7_placeOf : ByteArray := prog_9_method_75_code
def yX7_placeOf : MethodName := ⟨RX7, "placeOf", "(I)I"⟩
abbrev cX7_isConsistent : ByteArray := prog_9_method_76_code
def yX7_isConsistent : MethodName := ⟨RX7, "isConsistent", "()Z"⟩
def RJx145de : String := "java/io/Serializable"
def TJx145de : u_T := fun k => match k with
  | _ => ("", "", "", false)
def tyJx145de : Nat → FieldType := fun k => match k with
  | _ => .int
abbrev wsJx145de0 : List Cond := u_ws RJx145de TJx145de 0
theorem nmJx145de : ∀ a, a < 0 → ∀ b, b < 0 → a ≠ b → (TJx145de a).2.1 ≠ (TJx145de b).2.1 := by decide +kernel
theorem tyJx145de_ok : ∀ k, k < 0 → parseFieldDescriptor (TJx145de k).2.2.1 = some (tyJx145de k) := by decide +kernel
def RJx00060 : String := "java/lang/ArrayIndexOutOfBoundsException"
def TJx00060 : u_T := fun k => match k with
  | 0 => ("java/lang/Throwable", "backtrace", "Ljava/lang/Object;", false)
  | 1 => ("java/lang/Throwable", "detailMessage", "Ljava/lang/String;", false)
  | 2 => ("java/lang/Throwable", "cause", "Ljava/lang/Throwable;", false)
  | 3 => ("java/lang/Throwable", "stackTrace", "[Ljava/lang/StackTraceElement;", false)
  | 4 => ("java/lang/Throwable", "depth", "I", false)
  | _ => ("java/lang/Throwable", "suppressedExceptions", "Ljava/util/List;", false)
def tyJx00060 : Nat → FieldType := fun k => match k with
  | 0 => .object "java/lang/Object"
  | 1 => .object "java/lang/String"
  | 2 => .object "java/lang/Throwable"
  | 3 => .array (.object "java/lang/StackTraceElement")
  | 4 => .int
  | _ => .object "java/util/List"
abbrev wsJx000600 : List Cond := u_ws RJx00060 TJx00060 6
theorem nmJx00060 : ∀ a, a < 6 → ∀ b, b < 6 → a ≠ b → (TJx00060 a).2.1 ≠ (TJx00060 b).2.1 := by decide +kernel
theorem tyJx00060_ok : ∀ k, k < 6 → parseFieldDescriptor (TJx00060 k).2.2.1 = some (tyJx00060 k) := by decide +kernel
abbrev cJx00060_init_a7421 : ByteArray := prog_12_method_2_code
def yJx00060_init_a7421 : MethodName := ⟨RJx00060, "<init>", "(Ljava/lang/String;)V"⟩
def RJ9 : String := "java/lang/Math"
def TJ9 : u_T := fun k => match k with
  | _ => ("", "", "", false)
def tyJ9 : Nat → FieldType := fun k => match k with
  | _ => .int
abbrev wsJ90 : List Cond := u_ws RJ9 TJ9 0
theorem nmJ9 : ∀ a, a < 0 → ∀ b, b < 0 → a ≠ b → (TJ9 a).2.1 ≠ (TJ9 b).2.1 := by decide +kernel
theorem tyJ9_ok : ∀ k, k < 0 → parseFieldDescriptor (TJ9 k).2.2.1 = some (tyJ9 k) := by decide +kernel
abbrev cJ9_abs_0f7a4 : ByteArray := prog_17_method_59_code
def yJ9_abs_0f7a4 : MethodName := ⟨RJ9, "abs", "(I)I"⟩
abbrev cJ9_max_7cf53 : ByteArray := prog_17_method_65_code
def yJ9_max_7cf53 : MethodName := ⟨RJ9, "max", "(II)I"⟩
abbrev cJ9_min_7cf53 : ByteArray := prog_17_method_69_code
def yJ9_min_7cf53 : MethodName := ⟨RJ9, "min", "(II)I"⟩
def RJ0 : String := "java/lang/String"
def TJ0 : u_T := fun k => match k with
  | 0 => ("java/lang/String", "value", "[B", true)
  | _ => ("java/lang/String", "coder", "B", true)
def tyJ0 : Nat → FieldType := fun k => match k with
  | 0 => .array .byte
  | _ => .byte
abbrev wsJ00 : List Cond := u_ws RJ0 TJ0 2
theorem nmJ0 : ∀ a, a < 2 → ∀ b, b < 2 → a ≠ b → (TJ0 a).2.1 ≠ (TJ0 b).2.1 := by decide +kernel
theorem tyJ0_ok : ∀ k, k < 2 → parseFieldDescriptor (TJ0 k).2.2.1 = some (tyJ0 k) := by decide +kernel
def RJ10 : String := "java/lang/System"
def TJ10 : u_T := fun k => match k with
  | _ => ("", "", "", false)
def tyJ10 : Nat → FieldType := fun k => match k with
  | _ => .int
abbrev wsJ100 : List Cond := u_ws RJ10 TJ10 0
theorem nmJ10 : ∀ a, a < 0 → ∀ b, b < 0 → a ≠ b → (TJ10 a).2.1 ≠ (TJ10 b).2.1 := by decide +kernel
theorem tyJ10_ok : ∀ k, k < 0 → parseFieldDescriptor (TJ10 k).2.2.1 = some (tyJ10 k) := by decide +kernel
def RL : String := "ToneGraphLaw"
abbrev cL_addGain : ByteArray := method_3_code
def yL_addGain : MethodName := ⟨RL, "addGain", "(LToneGraph;I[J)I"⟩
abbrev cL_addDelay : ByteArray := method_4_code
def yL_addDelay : MethodName := ⟨RL, "addDelay", "(LToneGraph;II[J)I"⟩
abbrev cL_addFilter : ByteArray := method_5_code
def yL_addFilter : MethodName := ⟨RL, "addFilter", "(LToneGraph;III[J)I"⟩
abbrev cL_addBus : ByteArray := method_6_code
def yL_addBus : MethodName := ⟨RL, "addBus", "(LToneGraph;I[J)I"⟩
abbrev cL_connect : ByteArray := method_7_code
def yL_connect : MethodName := ⟨RL, "connect", "(LToneGraph;III[J)I"⟩
abbrev cL_disconnect : ByteArray := method_8_code
def yL_disconnect : MethodName := ⟨RL, "disconnect", "(LToneGraph;II[J)I"⟩
abbrev cL_setGain : ByteArray := method_9_code
def yL_setGain : MethodName := ⟨RL, "setGain", "(LToneGraph;II[J)I"⟩
abbrev cL_setOutput : ByteArray := method_10_code
def yL_setOutput : MethodName := ⟨RL, "setOutput", "(LToneGraph;I[J)I"⟩
abbrev cL_kindOf : ByteArray := method_11_code
def yL_kindOf : MethodName := ⟨RL, "kindOf", "(LToneGraph;I[J)I"⟩
abbrev cL_wires : ByteArray := method_12_code
def yL_wires : MethodName := ⟨RL, "wires", "(LToneGraph;I[J)I"⟩
abbrev cL_wireFrom : ByteArray := method_13_code
def yL_wireFrom : MethodName := ⟨RL, "wireFrom", "(LToneGraph;II[J)I"⟩
abbrev cL_wirePercent : ByteArray := method_14_code
def yL_wirePercent : MethodName := ⟨RL, "wirePercent", "(LToneGraph;II[J)I"⟩
abbrev cL_nodeAt : ByteArray := method_15_code
def yL_nodeAt : MethodName := ⟨RL, "nodeAt", "(LToneGraph;I[J)I"⟩
abbrev cL_setWave : ByteArray := method_16_code
def yL_setWave : MethodName := ⟨RL, "setWave", "(LToneGraph;C[J)I"⟩
abbrev cL_setEnvelope : ByteArray := method_17_code
def yL_setEnvelope : MethodName := ⟨RL, "setEnvelope", "(LToneGraph;IIII[J)I"⟩
abbrev cL_begin : ByteArray := method_18_code
def yL_begin : MethodName := ⟨RL, "begin", "(LToneGraph;II[J)I"⟩
abbrev cL_end : ByteArray := method_19_code
def yL_end : MethodName := ⟨RL, "end", "(LToneGraph;I[J)I"⟩
abbrev cL_stateOf : ByteArray := method_20_code
def yL_stateOf : MethodName := ⟨RL, "stateOf", "(LToneGraph;I[J)I"⟩
abbrev cL_keyOf : ByteArray := method_21_code
def yL_keyOf : MethodName := ⟨RL, "keyOf", "(LToneGraph;I[J)I"⟩
abbrev cL_levelOf : ByteArray := method_22_code
def yL_levelOf : MethodName := ⟨RL, "levelOf", "(LToneGraph;I[J)I"⟩
abbrev cL_phaseOf : ByteArray := method_23_code
def yL_phaseOf : MethodName := ⟨RL, "phaseOf", "(LToneGraph;I[J)I"⟩
abbrev cL_play : ByteArray := method_24_code
def yL_play : MethodName := ⟨RL, "play", "(LToneGraph;I[J)I"⟩
abbrev cL_ahead : ByteArray := method_25_code
def yL_ahead : MethodName := ⟨RL, "ahead", "(LToneGraph;I[J)I"⟩
abbrev cL_aheadByBlocks : ByteArray := method_26_code
def yL_aheadByBlocks : MethodName := ⟨RL, "aheadByBlocks", "(LToneGraph;II[J)I"⟩
abbrev cL_heard : ByteArray := method_27_code
def yL_heard : MethodName := ⟨RL, "heard", "(LToneGraph;I[J)I"⟩
abbrev cL_outputOf : ByteArray := method_28_code
def yL_outputOf : MethodName := ⟨RL, "outputOf", "(LToneGraph;I[J)I"⟩
abbrev cL_meanEnergy : ByteArray := method_29_code
def yL_meanEnergy : MethodName := ⟨RL, "meanEnergy", "(LToneGraph;[D)I"⟩
abbrev cL_quietShare : ByteArray := method_30_code
def yL_quietShare : MethodName := ⟨RL, "quietShare", "(LToneGraph;[D)I"⟩
abbrev cL_law : ByteArray := code
def yL_law : MethodName := ⟨RL, "law", "([I)Z"⟩
abbrev vwCl : List vw_C := [(RJ0, TJ0, 2), (RJx00060, TJx00060, 6), (RX0, TX0, 14), (RX1, TX1, 3), (RX2, TX2, 4), (RX3, TX3, 5), (RX4, TX4, 7), (RX5, TX5, 13), (RX6, TX6, 8), (RX7, TX7, 26)]
end
section
/-! the tables' good words, each by its place -/
def zAll : List Cond := lw_tbl.filter goodWord
theorem zt1 {w : Cond} (h : w ∈ tables_1_1) (g : goodWord w = true) : w ∈ zAll := List.mem_filter.mpr ⟨List.mem_append_right _ (List.mem_append_left _ h), g⟩
theorem wn_L : (Jvm.Cond.initialized "ToneGraphLaw") ∈ zAll := zt1 (List.mem_of_getElem? (i := 0) (by decide +kernel)) rfl
theorem wn_X6 : (Jvm.Cond.initialized "ToneGraph") ∈ zAll := zt1 (List.mem_of_getElem? (i := 1) (by decide +kernel)) rfl
theorem wn_X0 : (Jvm.Cond.initialized "ToneGraph$Board") ∈ zAll := zt1 (List.mem_of_getElem? (i := 2) (by decide +kernel)) rfl
theorem wn_X4 : (Jvm.Cond.initialized "ToneGraph$Track") ∈ zAll := zt1 (List.mem_of_getElem? (i := 3) (by decide +kernel)) rfl
theorem wn_X1 : (Jvm.Cond.initialized "ToneGraph$Choir") ∈ zAll := zt1 (List.mem_of_getElem? (i := 4) (by decide +kernel)) rfl
theorem wn_X5 : (Jvm.Cond.initialized "ToneGraph$Voice") ∈ zAll := zt1 (List.mem_of_getElem? (i := 5) (by decide +kernel)) rfl
theorem wn_X2 : (Jvm.Cond.initialized "ToneGraph$Envelope") ∈ zAll := zt1 (List.mem_of_getElem? (i := 6) (by decide +kernel)) rfl
theorem wn_X3 : (Jvm.Cond.initialized "ToneGraph$Meter") ∈ zAll := zt1 (List.mem_of_getElem? (i := 7) (by decide +kernel)) rfl
theorem wn_X7 : (Jvm.Cond.initialized "ToneGraphModel") ∈ zAll := zt1 (List.mem_of_getElem? (i := 8) (by decide +kernel)) rfl
theorem wn_Throwable : (Jvm.Cond.initialized "java/lang/Throwable") ∈ zAll := zt1 (List.mem_of_getElem? (i := 9) (by decide +kernel)) rfl
theorem wn_Exception : (Jvm.Cond.initialized "java/lang/Exception") ∈ zAll := zt1 (List.mem_of_getElem? (i := 10) (by decide +kernel)) rfl
theorem wn_RuntimeException : (Jvm.Cond.initialized "java/lang/RuntimeException") ∈ zAll := zt1 (List.mem_of_getElem? (i := 11) (by decide +kernel)) rfl
theorem wn_IllegalArgumentException : (Jvm.Cond.initialized "java/lang/IllegalArgumentException") ∈ zAll := zt1 (List.mem_of_getElem? (i := 12) (by decide +kernel)) rfl
theorem wn_IllegalStateException : (Jvm.Cond.initialized "java/lang/IllegalStateException") ∈ zAll := zt1 (List.mem_of_getElem? (i := 13) (by decide +kernel)) rfl
theorem wn_IndexOutOfBoundsException : (Jvm.Cond.initialized "java/lang/IndexOutOfBoundsException") ∈ zAll := zt1 (List.mem_of_getElem? (i := 14) (by decide +kernel)) rfl
theorem wn_ArrayIndexOutOfBoundsException : (Jvm.Cond.initialized "java/lang/ArrayIndexOutOfBoundsException") ∈ zAll := zt1 (List.mem_of_getElem? (i := 15) (by decide +kernel)) rfl
theorem wn_String : (Jvm.Cond.initialized "java/lang/String") ∈ zAll := zt1 (List.mem_of_getElem? (i := 16) (by decide +kernel)) rfl
theorem wn_UnsupportedOperationException : (Jvm.Cond.initialized "java/lang/UnsupportedOperationException") ∈ zAll := zt1 (List.mem_of_getElem? (i := 17) (by decide +kernel)) rfl
theorem wn_NoSuchElementException : (Jvm.Cond.initialized "java/util/NoSuchElementException") ∈ zAll := zt1 (List.mem_of_getElem? (i := 18) (by decide +kernel)) rfl
theorem wn_Math : (Jvm.Cond.initialized "java/lang/Math") ∈ zAll := zt1 (List.mem_of_getElem? (i := 19) (by decide +kernel)) rfl
theorem wn_System : (Jvm.Cond.initialized "java/lang/System") ∈ zAll := zt1 (List.mem_of_getElem? (i := 20) (by decide +kernel)) rfl
theorem wn_ArithmeticException : (Jvm.Cond.initialized "java/lang/ArithmeticException") ∈ zAll := zt1 (List.mem_of_getElem? (i := 21) (by decide +kernel)) rfl
theorem wc_L_8 : (Jvm.Cond.classLink "ToneGraphLaw" (8 : Nat) "ToneGraph") ∈ zAll := zt1 (List.mem_of_getElem? (i := 22) (by decide +kernel)) rfl
theorem wt_X6 : (Jvm.Cond.instantiable "ToneGraph" (8 : Nat)) ∈ zAll := zt1 (List.mem_of_getElem? (i := 23) (by decide +kernel)) rfl
theorem wm_L_113 : (Jvm.Cond.methodLink "ToneGraphLaw" (113 : Nat) ({ cls := "ToneGraph", name := "<init>", desc := "()V" } : Jvm.MethodName)) ∈ zAll := zt1 (List.mem_of_getElem? (i := 24) (by decide +kernel)) rfl
theorem wi_X6_init : (Jvm.Cond.instanceMethod ({ cls := "ToneGraph", name := "<init>", desc := "()V" } : Jvm.MethodName)) ∈ zAll := zt1 (List.mem_of_getElem? (i := 25) (by decide +kernel)) rfl
theorem wcode_X6_init : (Jvm.Cond.code ({ cls := "ToneGraph", name := "<init>", desc := "()V" } : Jvm.MethodName) prog_1_method_1_code (1 : Nat) (Option.none : Option Jvm.ClassFile.FieldType)) ∈ zAll := zt1 (List.mem_of_getElem? (i := 26) (by decide +kernel)) rfl
theorem wm_X6_1 : (Jvm.Cond.methodLink "ToneGraph" (1 : Nat) ({ cls := "java/lang/Object", name := "<init>", desc := "()V" } : Jvm.MethodName)) ∈ zAll := zt1 (List.mem_of_getElem? (i := 27) (by decide +kernel)) rfl
theorem wi_Object_init : (Jvm.Cond.instanceMethod ({ cls := "java/lang/Object", name := "<init>", desc := "()V" } : Jvm.MethodName)) ∈ zAll := zt1 (List.mem_of_getElem? (i := 28) (by decide +kernel)) rfl
theorem wcode_Object_init : (Jvm.Cond.code ({ cls := "java/lang/Object", name := "<init>", desc := "()V" } : Jvm.MethodName) object_method_1_code (1 : Nat) (Option.none : Option Jvm.ClassFile.FieldType)) ∈ zAll := zt1 (List.mem_of_getElem? (i := 29) (by decide +kernel)) rfl
theorem wc_X6_7 : (Jvm.Cond.classLink "ToneGraph" (7 : Nat) "ToneGraph$Board") ∈ zAll := zt1 (List.mem_of_getElem? (i := 30) (by decide +kernel)) rfl
theorem wt_X0 : (Jvm.Cond.instantiable "ToneGraph$Board" (14 : Nat)) ∈ zAll := zt1 (List.mem_of_getElem? (i := 31) (by decide +kernel)) rfl
theorem wm_X6_9 : (Jvm.Cond.methodLink "ToneGraph" (9 : Nat) ({ cls := "ToneGraph$Board", name := "<init>", desc := "()V" } : Jvm.MethodName)) ∈ zAll := zt1 (List.mem_of_getElem? (i := 32) (by decide +kernel)) rfl
theorem wi_X0_init : (Jvm.Cond.instanceMethod ({ cls := "ToneGraph$Board", name := "<init>", desc := "()V" } : Jvm.MethodName)) ∈ zAll := zt1 (List.mem_of_getElem? (i := 33) (by decide +kernel)) rfl
theorem wcode_X0_init : (Jvm.Cond.code ({ cls := "ToneGraph$Board", name := "<init>", desc := "()V" } : Jvm.MethodName) prog_2_method_1_code (1 : Nat) (Option.none : Option Jvm.ClassFile.FieldType)) ∈ zAll := zt1 (List.mem_of_getElem? (i := 34) (by decide +kernel)) rfl
theorem wm_X0_3 : (Jvm.Cond.methodLink "ToneGraph$Board" (3 : Nat) ({ cls := "java/lang/Object", name := "<init>", desc := "()V" } : Jvm.MethodName)) ∈ zAll := zt1 (List.mem_of_getElem? (i := 35) (by decide +kernel)) rfl
theorem wc_X0_40 : (Jvm.Cond.classLink "ToneGraph$Board" (40 : Nat) "[[I") ∈ zAll := zt1 (List.mem_of_getElem? (i := 36) (by decide +kernel)) rfl
theorem wf_X0_51 : (Jvm.Cond.fieldLink "ToneGraph$Board" (51 : Nat) "ToneGraph$Board" "count" "I") ∈ zAll := zt1 (List.mem_of_getElem? (i := 38) (by decide +kernel)) rfl
theorem wf_X4_44 : (Jvm.Cond.fieldLink "ToneGraph$Track" (44 : Nat) "ToneGraph$Board" "count" "I") ∈ zAll := zt1 (List.mem_of_getElem? (i := 39) (by decide +kernel)) rfl
theorem wf_X6_141 : (Jvm.Cond.fieldLink "ToneGraph" (141 : Nat) "ToneGraph$Board" "count" "I") ∈ zAll := zt1 (List.mem_of_getElem? (i := 40) (by decide +kernel)) rfl
theorem wf_X4_77 : (Jvm.Cond.fieldLink "ToneGraph$Track" (77 : Nat) "ToneGraph$Board" "output" "I") ∈ zAll := zt1 (List.mem_of_getElem? (i := 41) (by decide +kernel)) rfl
theorem wf_X6_137 : (Jvm.Cond.fieldLink "ToneGraph" (137 : Nat) "ToneGraph$Board" "output" "I") ∈ zAll := zt1 (List.mem_of_getElem? (i := 42) (by decide +kernel)) rfl
theorem wf_X0_9 : (Jvm.Cond.fieldLink "ToneGraph$Board" (9 : Nat) "ToneGraph$Board" "kind" "[C") ∈ zAll := zt1 (List.mem_of_getElem? (i := 43) (by decide +kernel)) rfl
theorem wf_X4_50 : (Jvm.Cond.fieldLink "ToneGraph$Track" (50 : Nat) "ToneGraph$Board" "kind" "[C") ∈ zAll := zt1 (List.mem_of_getElem? (i := 44) (by decide +kernel)) rfl
theorem wf_X6_110 : (Jvm.Cond.fieldLink "ToneGraph" (110 : Nat) "ToneGraph$Board" "kind" "[C") ∈ zAll := zt1 (List.mem_of_getElem? (i := 45) (by decide +kernel)) rfl
theorem wf_X0_15 : (Jvm.Cond.fieldLink "ToneGraph$Board" (15 : Nat) "ToneGraph$Board" "gain" "[I") ∈ zAll := zt1 (List.mem_of_getElem? (i := 46) (by decide +kernel)) rfl
theorem wf_X6_66 : (Jvm.Cond.fieldLink "ToneGraph" (66 : Nat) "ToneGraph$Board" "gain" "[I") ∈ zAll := zt1 (List.mem_of_getElem? (i := 47) (by decide +kernel)) rfl
theorem wf_X4_119 : (Jvm.Cond.fieldLink "ToneGraph$Track" (119 : Nat) "ToneGraph$Board" "gain" "[I") ∈ zAll := zt1 (List.mem_of_getElem? (i := 48) (by decide +kernel)) rfl
theorem wf_X0_19 : (Jvm.Cond.fieldLink "ToneGraph$Board" (19 : Nat) "ToneGraph$Board" "length" "[I") ∈ zAll := zt1 (List.mem_of_getElem? (i := 49) (by decide +kernel)) rfl
theorem wf_X6_69 : (Jvm.Cond.fieldLink "ToneGraph" (69 : Nat) "ToneGraph$Board" "length" "[I") ∈ zAll := zt1 (List.mem_of_getElem? (i := 50) (by decide +kernel)) rfl
theorem wf_X4_131 : (Jvm.Cond.fieldLink "ToneGraph$Track" (131 : Nat) "ToneGraph$Board" "length" "[I") ∈ zAll := zt1 (List.mem_of_getElem? (i := 51) (by decide +kernel)) rfl
theorem wf_X0_22 : (Jvm.Cond.fieldLink "ToneGraph$Board" (22 : Nat) "ToneGraph$Board" "feedback" "[I") ∈ zAll := zt1 (List.mem_of_getElem? (i := 52) (by decide +kernel)) rfl
theorem wf_X6_72 : (Jvm.Cond.fieldLink "ToneGraph" (72 : Nat) "ToneGraph$Board" "feedback" "[I") ∈ zAll := zt1 (List.mem_of_getElem? (i := 53) (by decide +kernel)) rfl
theorem wf_X4_128 : (Jvm.Cond.fieldLink "ToneGraph$Track" (128 : Nat) "ToneGraph$Board" "feedback" "[I") ∈ zAll := zt1 (List.mem_of_getElem? (i := 54) (by decide +kernel)) rfl
theorem wf_X0_25 : (Jvm.Cond.fieldLink "ToneGraph$Board" (25 : Nat) "ToneGraph$Board" "a" "[I") ∈ zAll := zt1 (List.mem_of_getElem? (i := 55) (by decide +kernel)) rfl
theorem wf_X6_75 : (Jvm.Cond.fieldLink "ToneGraph" (75 : Nat) "ToneGraph$Board" "a" "[I") ∈ zAll := zt1 (List.mem_of_getElem? (i := 56) (by decide +kernel)) rfl
theorem wf_X4_134 : (Jvm.Cond.fieldLink "ToneGraph$Track" (134 : Nat) "ToneGraph$Board" "a" "[I") ∈ zAll := zt1 (List.mem_of_getElem? (i := 57) (by decide +kernel)) rfl
theorem wf_X0_28 : (Jvm.Cond.fieldLink "ToneGraph$Board" (28 : Nat) "ToneGraph$Board" "b" "[I") ∈ zAll := zt1 (List.mem_of_getElem? (i := 58) (by decide +kernel)) rfl
theorem wf_X6_78 : (Jvm.Cond.fieldLink "ToneGraph" (78 : Nat) "ToneGraph$Board" "b" "[I") ∈ zAll := zt1 (List.mem_of_getElem? (i := 59) (by decide +kernel)) rfl
theorem wf_X4_137 : (Jvm.Cond.fieldLink "ToneGraph$Track" (137 : Nat) "ToneGraph$Board" "b" "[I") ∈ zAll := zt1 (List.mem_of_getElem? (i := 60) (by decide +kernel)) rfl
theorem wf_X0_31 : (Jvm.Cond.fieldLink "ToneGraph$Board" (31 : Nat) "ToneGraph$Board" "c" "[I") ∈ zAll := zt1 (List.mem_of_getElem? (i := 61) (by decide +kernel)) rfl
theorem wf_X6_81 : (Jvm.Cond.fieldLink "ToneGraph" (81 : Nat) "ToneGraph$Board" "c" "[I") ∈ zAll := zt1 (List.mem_of_getElem? (i := 62) (by decide +kernel)) rfl
theorem wf_X4_140 : (Jvm.Cond.fieldLink "ToneGraph$Track" (140 : Nat) "ToneGraph$Board" "c" "[I") ∈ zAll := zt1 (List.mem_of_getElem? (i := 63) (by decide +kernel)) rfl
theorem wf_X0_34 : (Jvm.Cond.fieldLink "ToneGraph$Board" (34 : Nat) "ToneGraph$Board" "limit" "[I") ∈ zAll := zt1 (List.mem_of_getElem? (i := 64) (by decide +kernel)) rfl
theorem wf_X6_84 : (Jvm.Cond.fieldLink "ToneGraph" (84 : Nat) "ToneGraph$Board" "limit" "[I") ∈ zAll := zt1 (List.mem_of_getElem? (i := 65) (by decide +kernel)) rfl
theorem wf_X4_143 : (Jvm.Cond.fieldLink "ToneGraph$Track" (143 : Nat) "ToneGraph$Board" "limit" "[I") ∈ zAll := zt1 (List.mem_of_getElem? (i := 66) (by decide +kernel)) rfl
theorem wf_X0_37 : (Jvm.Cond.fieldLink "ToneGraph$Board" (37 : Nat) "ToneGraph$Board" "wireCount" "[I") ∈ zAll := zt1 (List.mem_of_getElem? (i := 67) (by decide +kernel)) rfl
theorem wf_X6_102 : (Jvm.Cond.fieldLink "ToneGraph" (102 : Nat) "ToneGraph$Board" "wireCount" "[I") ∈ zAll := zt1 (List.mem_of_getElem? (i := 68) (by decide +kernel)) rfl
theorem wf_X4_152 : (Jvm.Cond.fieldLink "ToneGraph$Track" (152 : Nat) "ToneGraph$Board" "wireCount" "[I") ∈ zAll := zt1 (List.mem_of_getElem? (i := 69) (by decide +kernel)) rfl
theorem wf_X0_42 : (Jvm.Cond.fieldLink "ToneGraph$Board" (42 : Nat) "ToneGraph$Board" "source" "[[I") ∈ zAll := zt1 (List.mem_of_getElem? (i := 70) (by decide +kernel)) rfl
theorem wf_X6_148 : (Jvm.Cond.fieldLink "ToneGraph" (148 : Nat) "ToneGraph$Board" "source" "[[I") ∈ zAll := zt1 (List.mem_of_getElem? (i := 71) (by decide +kernel)) rfl
theorem wf_X4_155 : (Jvm.Cond.fieldLink "ToneGraph$Track" (155 : Nat) "ToneGraph$Board" "source" "[[I") ∈ zAll := zt1 (List.mem_of_getElem? (i := 72) (by decide +kernel)) rfl
theorem wf_X0_45 : (Jvm.Cond.fieldLink "ToneGraph$Board" (45 : Nat) "ToneGraph$Board" "share" "[[I") ∈ zAll := zt1 (List.mem_of_getElem? (i := 73) (by decide +kernel)) rfl
theorem wf_X4_158 : (Jvm.Cond.fieldLink "ToneGraph$Track" (158 : Nat) "ToneGraph$Board" "share" "[[I") ∈ zAll := zt1 (List.mem_of_getElem? (i := 74) (by decide +kernel)) rfl
theorem wf_X6_152 : (Jvm.Cond.fieldLink "ToneGraph" (152 : Nat) "ToneGraph$Board" "share" "[[I") ∈ zAll := zt1 (List.mem_of_getElem? (i := 75) (by decide +kernel)) rfl
theorem wf_X0_48 : (Jvm.Cond.fieldLink "ToneGraph$Board" (48 : Nat) "ToneGraph$Board" "order" "[I") ∈ zAll := zt1 (List.mem_of_getElem? (i := 76) (by decide +kernel)) rfl
theorem wf_X4_80 : (Jvm.Cond.fieldLink "ToneGraph$Track" (80 : Nat) "ToneGraph$Board" "order" "[I") ∈ zAll := zt1 (List.mem_of_getElem? (i := 77) (by decide +kernel)) rfl
theorem wf_X6_155 : (Jvm.Cond.fieldLink "ToneGraph" (155 : Nat) "ToneGraph$Board" "order" "[I") ∈ zAll := zt1 (List.mem_of_getElem? (i := 78) (by decide +kernel)) rfl
theorem wa_char : (Jvm.Cond.arrayClass Jvm.ClassFile.FieldType.char) ∈ zAll := zt1 (List.mem_of_getElem? (i := 108) (by decide +kernel)) rfl
theorem wa_int : (Jvm.Cond.arrayClass Jvm.ClassFile.FieldType.int) ∈ zAll := zt1 (List.mem_of_getElem? (i := 109) (by decide +kernel)) rfl
theorem wc_X6_16 : (Jvm.Cond.classLink "ToneGraph" (16 : Nat) "ToneGraph$Track") ∈ zAll := zt1 (List.mem_of_getElem? (i := 110) (by decide +kernel)) rfl
theorem wt_X4 : (Jvm.Cond.instantiable "ToneGraph$Track" (7 : Nat)) ∈ zAll := zt1 (List.mem_of_getElem? (i := 111) (by decide +kernel)) rfl
theorem wm_X6_18 : (Jvm.Cond.methodLink "ToneGraph" (18 : Nat) ({ cls := "ToneGraph$Track", name := "<init>", desc := "(LToneGraph$Board;)V" } : Jvm.MethodName)) ∈ zAll := zt1 (List.mem_of_getElem? (i := 112) (by decide +kernel)) rfl
theorem wi_X4_init : (Jvm.Cond.instanceMethod ({ cls := "ToneGraph$Track", name := "<init>", desc := "(LToneGraph$Board;)V" } : Jvm.MethodName)) ∈ zAll := zt1 (List.mem_of_getElem? (i := 113) (by decide +kernel)) rfl
theorem wcode_X4_init : (Jvm.Cond.code ({ cls := "ToneGraph$Track", name := "<init>", desc := "(LToneGraph$Board;)V" } : Jvm.MethodName) prog_6_method_1_code (2 : Nat) (Option.none : Option Jvm.ClassFile.FieldType)) ∈ zAll := zt1 (List.mem_of_getElem? (i := 114) (by decide +kernel)) rfl
theorem wm_X4_3 : (Jvm.Cond.methodLink "ToneGraph$Track" (3 : Nat) ({ cls := "java/lang/Object", name := "<init>", desc := "()V" } : Jvm.MethodName)) ∈ zAll := zt1 (List.mem_of_getElem? (i := 115) (by decide +kernel)) rfl
theorem wc_X4_9 : (Jvm.Cond.classLink "ToneGraph$Track" (9 : Nat) "ToneGraph$Choir") ∈ zAll := zt1 (List.mem_of_getElem? (i := 116) (by decide +kernel)) rfl
theorem wt_X1 : (Jvm.Cond.instantiable "ToneGraph$Choir" (3 : Nat)) ∈ zAll := zt1 (List.mem_of_getElem? (i := 117) (by decide +kernel)) rfl
theorem wm_X4_11 : (Jvm.Cond.methodLink "ToneGraph$Track" (11 : Nat) ({ cls := "ToneGraph$Choir", name := "<init>", desc := "()V" } : Jvm.MethodName)) ∈ zAll := zt1 (List.mem_of_getElem? (i := 118) (by decide +kernel)) rfl
theorem wi_X1_init : (Jvm.Cond.instanceMethod ({ cls := "ToneGraph$Choir", name := "<init>", desc := "()V" } : Jvm.MethodName)) ∈ zAll := zt1 (List.mem_of_getElem? (i := 119) (by decide +kernel)) rfl
theorem wcode_X1_init : (Jvm.Cond.code ({ cls := "ToneGraph$Choir", name := "<init>", desc := "()V" } : Jvm.MethodName) prog_3_method_1_code (2 : Nat) (Option.none : Option Jvm.ClassFile.FieldType)) ∈ zAll := zt1 (List.mem_of_getElem? (i := 120) (by decide +kernel)) rfl
theorem wm_X1_3 : (Jvm.Cond.methodLink "ToneGraph$Choir" (3 : Nat) ({ cls := "java/lang/Object", name := "<init>", desc := "()V" } : Jvm.MethodName)) ∈ zAll := zt1 (List.mem_of_getElem? (i := 121) (by decide +kernel)) rfl
theorem wc_X1_9 : (Jvm.Cond.classLink "ToneGraph$Choir" (9 : Nat) "ToneGraph$Voice") ∈ zAll := zt1 (List.mem_of_getElem? (i := 122) (by decide +kernel)) rfl
theorem wt_X5 : (Jvm.Cond.instantiable "ToneGraph$Voice" (13 : Nat)) ∈ zAll := zt1 (List.mem_of_getElem? (i := 124) (by decide +kernel)) rfl
theorem wi_X5_init : (Jvm.Cond.instanceMethod ({ cls := "ToneGraph$Voice", name := "<init>", desc := "()V" } : Jvm.MethodName)) ∈ zAll := zt1 (List.mem_of_getElem? (i := 126) (by decide +kernel)) rfl
theorem wcode_X5_init : (Jvm.Cond.code ({ cls := "ToneGraph$Voice", name := "<init>", desc := "()V" } : Jvm.MethodName) prog_7_method_1_code (1 : Nat) (Option.none : Option Jvm.ClassFile.FieldType)) ∈ zAll := zt1 (List.mem_of_getElem? (i := 127) (by decide +kernel)) rfl
theorem wm_X5_3 : (Jvm.Cond.methodLink "ToneGraph$Voice" (3 : Nat) ({ cls := "java/lang/Object", name := "<init>", desc := "()V" } : Jvm.MethodName)) ∈ zAll := zt1 (List.mem_of_getElem? (i := 128) (by decide +kernel)) rfl
theorem wc_X5_15 : (Jvm.Cond.classLink "ToneGraph$Voice" (15 : Nat) "ToneGraph$Envelope") ∈ zAll := zt1 (List.mem_of_getElem? (i := 129) (by decide +kernel)) rfl
theorem wt_X2 : (Jvm.Cond.instantiable "ToneGraph$Envelope" (4 : Nat)) ∈ zAll := zt1 (List.mem_of_getElem? (i := 130) (by decide +kernel)) rfl
theorem wm_X5_17 : (Jvm.Cond.methodLink "ToneGraph$Voice" (17 : Nat) ({ cls := "ToneGraph$Envelope", name := "<init>", desc := "(IIII)V" } : Jvm.MethodName)) ∈ zAll := zt1 (List.mem_of_getElem? (i := 131) (by decide +kernel)) rfl
theorem wi_X2_init : (Jvm.Cond.instanceMethod ({ cls := "ToneGraph$Envelope", name := "<init>", desc := "(IIII)V" } : Jvm.MethodName)) ∈ zAll := zt1 (List.mem_of_getElem? (i := 132) (by decide +kernel)) rfl
theorem wcode_X2_init : (Jvm.Cond.code ({ cls := "ToneGraph$Envelope", name := "<init>", desc := "(IIII)V" } : Jvm.MethodName) prog_4_method_1_code (5 : Nat) (Option.none : Option Jvm.ClassFile.FieldType)) ∈ zAll := zt1 (List.mem_of_getElem? (i := 133) (by decide +kernel)) rfl
theorem wm_X2_1 : (Jvm.Cond.methodLink "ToneGraph$Envelope" (1 : Nat) ({ cls := "java/lang/Object", name := "<init>", desc := "()V" } : Jvm.MethodName)) ∈ zAll := zt1 (List.mem_of_getElem? (i := 134) (by decide +kernel)) rfl
theorem wf_X2_7 : (Jvm.Cond.fieldLink "ToneGraph$Envelope" (7 : Nat) "ToneGraph$Envelope" "attack" "I") ∈ zAll := zt1 (List.mem_of_getElem? (i := 135) (by decide +kernel)) rfl
theorem wf_X5_81 : (Jvm.Cond.fieldLink "ToneGraph$Voice" (81 : Nat) "ToneGraph$Envelope" "attack" "I") ∈ zAll := zt1 (List.mem_of_getElem? (i := 136) (by decide +kernel)) rfl
theorem wf_X2_13 : (Jvm.Cond.fieldLink "ToneGraph$Envelope" (13 : Nat) "ToneGraph$Envelope" "decay" "I") ∈ zAll := zt1 (List.mem_of_getElem? (i := 137) (by decide +kernel)) rfl
theorem wf_X5_84 : (Jvm.Cond.fieldLink "ToneGraph$Voice" (84 : Nat) "ToneGraph$Envelope" "decay" "I") ∈ zAll := zt1 (List.mem_of_getElem? (i := 138) (by decide +kernel)) rfl
theorem wf_X2_16 : (Jvm.Cond.fieldLink "ToneGraph$Envelope" (16 : Nat) "ToneGraph$Envelope" "sustain" "I") ∈ zAll := zt1 (List.mem_of_getElem? (i := 139) (by decide +kernel)) rfl
theorem wf_X5_87 : (Jvm.Cond.fieldLink "ToneGraph$Voice" (87 : Nat) "ToneGraph$Envelope" "sustain" "I") ∈ zAll := zt1 (List.mem_of_getElem? (i := 140) (by decide +kernel)) rfl
theorem wf_X6_164 : (Jvm.Cond.fieldLink "ToneGraph" (164 : Nat) "ToneGraph$Envelope" "sustain" "I") ∈ zAll := zt1 (List.mem_of_getElem? (i := 141) (by decide +kernel)) rfl
theorem wf_X2_19 : (Jvm.Cond.fieldLink "ToneGraph$Envelope" (19 : Nat) "ToneGraph$Envelope" "release" "I") ∈ zAll := zt1 (List.mem_of_getElem? (i := 142) (by decide +kernel)) rfl
theorem wf_X5_67 : (Jvm.Cond.fieldLink "ToneGraph$Voice" (67 : Nat) "ToneGraph$Envelope" "release" "I") ∈ zAll := zt1 (List.mem_of_getElem? (i := 143) (by decide +kernel)) rfl
theorem wf_X5_24 : (Jvm.Cond.fieldLink "ToneGraph$Voice" (24 : Nat) "ToneGraph$Voice" "playing" "Z") ∈ zAll := zt1 (List.mem_of_getElem? (i := 153) (by decide +kernel)) rfl
theorem wf_X1_40 : (Jvm.Cond.fieldLink "ToneGraph$Choir" (40 : Nat) "ToneGraph$Voice" "playing" "Z") ∈ zAll := zt1 (List.mem_of_getElem? (i := 154) (by decide +kernel)) rfl
theorem wf_X6_280 : (Jvm.Cond.fieldLink "ToneGraph" (280 : Nat) "ToneGraph$Voice" "playing" "Z") ∈ zAll := zt1 (List.mem_of_getElem? (i := 155) (by decide +kernel)) rfl
theorem wf_X5_28 : (Jvm.Cond.fieldLink "ToneGraph$Voice" (28 : Nat) "ToneGraph$Voice" "released" "Z") ∈ zAll := zt1 (List.mem_of_getElem? (i := 156) (by decide +kernel)) rfl
theorem wf_X5_31 : (Jvm.Cond.fieldLink "ToneGraph$Voice" (31 : Nat) "ToneGraph$Voice" "key" "I") ∈ zAll := zt1 (List.mem_of_getElem? (i := 157) (by decide +kernel)) rfl
theorem wf_X6_211 : (Jvm.Cond.fieldLink "ToneGraph" (211 : Nat) "ToneGraph$Voice" "key" "I") ∈ zAll := zt1 (List.mem_of_getElem? (i := 158) (by decide +kernel)) rfl
theorem wf_X5_35 : (Jvm.Cond.fieldLink "ToneGraph$Voice" (35 : Nat) "ToneGraph$Voice" "velocity" "I") ∈ zAll := zt1 (List.mem_of_getElem? (i := 159) (by decide +kernel)) rfl
theorem wf_X5_9 : (Jvm.Cond.fieldLink "ToneGraph$Voice" (9 : Nat) "ToneGraph$Voice" "wave" "C") ∈ zAll := zt1 (List.mem_of_getElem? (i := 160) (by decide +kernel)) rfl
theorem wf_X5_20 : (Jvm.Cond.fieldLink "ToneGraph$Voice" (20 : Nat) "ToneGraph$Voice" "envelope" "LToneGraph$Envelope;") ∈ zAll := zt1 (List.mem_of_getElem? (i := 161) (by decide +kernel)) rfl
theorem wf_X5_42 : (Jvm.Cond.fieldLink "ToneGraph$Voice" (42 : Nat) "ToneGraph$Voice" "stride" "I") ∈ zAll := zt1 (List.mem_of_getElem? (i := 162) (by decide +kernel)) rfl
theorem wf_X5_45 : (Jvm.Cond.fieldLink "ToneGraph$Voice" (45 : Nat) "ToneGraph$Voice" "phase" "I") ∈ zAll := zt1 (List.mem_of_getElem? (i := 163) (by decide +kernel)) rfl
theorem wf_X6_217 : (Jvm.Cond.fieldLink "ToneGraph" (217 : Nat) "ToneGraph$Voice" "phase" "I") ∈ zAll := zt1 (List.mem_of_getElem? (i := 164) (by decide +kernel)) rfl
theorem wf_X5_48 : (Jvm.Cond.fieldLink "ToneGraph$Voice" (48 : Nat) "ToneGraph$Voice" "begun" "I") ∈ zAll := zt1 (List.mem_of_getElem? (i := 165) (by decide +kernel)) rfl
theorem wf_X1_52 : (Jvm.Cond.fieldLink "ToneGraph$Choir" (52 : Nat) "ToneGraph$Voice" "begun" "I") ∈ zAll := zt1 (List.mem_of_getElem? (i := 166) (by decide +kernel)) rfl
theorem wf_X5_64 : (Jvm.Cond.fieldLink "ToneGraph$Voice" (64 : Nat) "ToneGraph$Voice" "ended" "I") ∈ zAll := zt1 (List.mem_of_getElem? (i := 167) (by decide +kernel)) rfl
theorem wf_X5_51 : (Jvm.Cond.fieldLink "ToneGraph$Voice" (51 : Nat) "ToneGraph$Voice" "samples" "I") ∈ zAll := zt1 (List.mem_of_getElem? (i := 168) (by decide +kernel)) rfl
theorem wf_X5_58 : (Jvm.Cond.fieldLink "ToneGraph$Voice" (58 : Nat) "ToneGraph$Voice" "levelAtRelease" "I") ∈ zAll := zt1 (List.mem_of_getElem? (i := 169) (by decide +kernel)) rfl
theorem wf_X5_61 : (Jvm.Cond.fieldLink "ToneGraph$Voice" (61 : Nat) "ToneGraph$Voice" "samplesReleased" "I") ∈ zAll := zt1 (List.mem_of_getElem? (i := 170) (by decide +kernel)) rfl
theorem wf_X1_11 : (Jvm.Cond.fieldLink "ToneGraph$Choir" (11 : Nat) "ToneGraph$Choir" "voices" "[LToneGraph$Voice;") ∈ zAll := zt1 (List.mem_of_getElem? (i := 198) (by decide +kernel)) rfl
theorem wf_X4_102 : (Jvm.Cond.fieldLink "ToneGraph$Track" (102 : Nat) "ToneGraph$Choir" "voices" "[LToneGraph$Voice;") ∈ zAll := zt1 (List.mem_of_getElem? (i := 199) (by decide +kernel)) rfl
theorem wf_X6_198 : (Jvm.Cond.fieldLink "ToneGraph" (198 : Nat) "ToneGraph$Choir" "voices" "[LToneGraph$Voice;") ∈ zAll := zt1 (List.mem_of_getElem? (i := 200) (by decide +kernel)) rfl
theorem wf_X1_33 : (Jvm.Cond.fieldLink "ToneGraph$Choir" (33 : Nat) "ToneGraph$Choir" "clock" "I") ∈ zAll := zt1 (List.mem_of_getElem? (i := 201) (by decide +kernel)) rfl
theorem wf_X1_29 : (Jvm.Cond.fieldLink "ToneGraph$Choir" (29 : Nat) "ToneGraph$Choir" "thefts" "I") ∈ zAll := zt1 (List.mem_of_getElem? (i := 202) (by decide +kernel)) rfl
theorem wf_X6_220 : (Jvm.Cond.fieldLink "ToneGraph" (220 : Nat) "ToneGraph$Choir" "thefts" "I") ∈ zAll := zt1 (List.mem_of_getElem? (i := 203) (by decide +kernel)) rfl
theorem wc_X4_18 : (Jvm.Cond.classLink "ToneGraph$Track" (18 : Nat) "[[I") ∈ zAll := zt1 (List.mem_of_getElem? (i := 211) (by decide +kernel)) rfl
theorem wf_X4_36 : (Jvm.Cond.fieldLink "ToneGraph$Track" (36 : Nat) "ToneGraph$Track" "board" "LToneGraph$Board;") ∈ zAll := zt1 (List.mem_of_getElem? (i := 212) (by decide +kernel)) rfl
theorem wf_X4_12 : (Jvm.Cond.fieldLink "ToneGraph$Track" (12 : Nat) "ToneGraph$Track" "choir" "LToneGraph$Choir;") ∈ zAll := zt1 (List.mem_of_getElem? (i := 213) (by decide +kernel)) rfl
theorem wf_X6_170 : (Jvm.Cond.fieldLink "ToneGraph" (170 : Nat) "ToneGraph$Track" "choir" "LToneGraph$Choir;") ∈ zAll := zt1 (List.mem_of_getElem? (i := 214) (by decide +kernel)) rfl
theorem wf_X4_20 : (Jvm.Cond.fieldLink "ToneGraph$Track" (20 : Nat) "ToneGraph$Track" "block" "[[I") ∈ zAll := zt1 (List.mem_of_getElem? (i := 215) (by decide +kernel)) rfl
theorem wf_X4_23 : (Jvm.Cond.fieldLink "ToneGraph$Track" (23 : Nat) "ToneGraph$Track" "latest" "[I") ∈ zAll := zt1 (List.mem_of_getElem? (i := 216) (by decide +kernel)) rfl
theorem wf_X6_236 : (Jvm.Cond.fieldLink "ToneGraph" (236 : Nat) "ToneGraph$Track" "latest" "[I") ∈ zAll := zt1 (List.mem_of_getElem? (i := 217) (by decide +kernel)) rfl
theorem wf_X4_27 : (Jvm.Cond.fieldLink "ToneGraph$Track" (27 : Nat) "ToneGraph$Track" "inputBefore" "[I") ∈ zAll := zt1 (List.mem_of_getElem? (i := 218) (by decide +kernel)) rfl
theorem wf_X4_30 : (Jvm.Cond.fieldLink "ToneGraph$Track" (30 : Nat) "ToneGraph$Track" "kept" "[[I") ∈ zAll := zt1 (List.mem_of_getElem? (i := 219) (by decide +kernel)) rfl
theorem wf_X4_33 : (Jvm.Cond.fieldLink "ToneGraph$Track" (33 : Nat) "ToneGraph$Track" "oldest" "[I") ∈ zAll := zt1 (List.mem_of_getElem? (i := 220) (by decide +kernel)) rfl
theorem wc_X6_28 : (Jvm.Cond.classLink "ToneGraph" (28 : Nat) "ToneGraph$Meter") ∈ zAll := zt1 (List.mem_of_getElem? (i := 236) (by decide +kernel)) rfl
theorem wt_X3 : (Jvm.Cond.instantiable "ToneGraph$Meter" (5 : Nat)) ∈ zAll := zt1 (List.mem_of_getElem? (i := 237) (by decide +kernel)) rfl
theorem wi_X3_init : (Jvm.Cond.instanceMethod ({ cls := "ToneGraph$Meter", name := "<init>", desc := "()V" } : Jvm.MethodName)) ∈ zAll := zt1 (List.mem_of_getElem? (i := 239) (by decide +kernel)) rfl
theorem zt2 {w : Cond} (h : w ∈ tables_1_2) (g : goodWord w = true) : w ∈ zAll := List.mem_filter.mpr ⟨List.mem_append_right _ (List.mem_append_right _ (List.mem_append_left _ h)), g⟩
theorem wcode_X3_init : (Jvm.Cond.code ({ cls := "ToneGraph$Meter", name := "<init>", desc := "()V" } : Jvm.MethodName) prog_5_method_1_code (1 : Nat) (Option.none : Option Jvm.ClassFile.FieldType)) ∈ zAll := zt2 (List.mem_of_getElem? (i := 0) (by decide +kernel)) rfl
theorem wm_X3_3 : (Jvm.Cond.methodLink "ToneGraph$Meter" (3 : Nat) ({ cls := "java/lang/Object", name := "<init>", desc := "()V" } : Jvm.MethodName)) ∈ zAll := zt2 (List.mem_of_getElem? (i := 1) (by decide +kernel)) rfl
theorem wf_X3_9 : (Jvm.Cond.fieldLink "ToneGraph$Meter" (9 : Nat) "ToneGraph$Meter" "row" "[I") ∈ zAll := zt2 (List.mem_of_getElem? (i := 2) (by decide +kernel)) rfl
theorem wf_X3_15 : (Jvm.Cond.fieldLink "ToneGraph$Meter" (15 : Nat) "ToneGraph$Meter" "count" "I") ∈ zAll := zt2 (List.mem_of_getElem? (i := 3) (by decide +kernel)) rfl
theorem wf_X6_230 : (Jvm.Cond.fieldLink "ToneGraph" (230 : Nat) "ToneGraph$Meter" "count" "I") ∈ zAll := zt2 (List.mem_of_getElem? (i := 4) (by decide +kernel)) rfl
theorem wf_X3_19 : (Jvm.Cond.fieldLink "ToneGraph$Meter" (19 : Nat) "ToneGraph$Meter" "peak" "I") ∈ zAll := zt2 (List.mem_of_getElem? (i := 5) (by decide +kernel)) rfl
theorem wf_X6_239 : (Jvm.Cond.fieldLink "ToneGraph" (239 : Nat) "ToneGraph$Meter" "peak" "I") ∈ zAll := zt2 (List.mem_of_getElem? (i := 6) (by decide +kernel)) rfl
theorem wf_X3_32 : (Jvm.Cond.fieldLink "ToneGraph$Meter" (32 : Nat) "ToneGraph$Meter" "squares" "J") ∈ zAll := zt2 (List.mem_of_getElem? (i := 7) (by decide +kernel)) rfl
theorem wf_X6_242 : (Jvm.Cond.fieldLink "ToneGraph" (242 : Nat) "ToneGraph$Meter" "squares" "J") ∈ zAll := zt2 (List.mem_of_getElem? (i := 8) (by decide +kernel)) rfl
theorem wf_X3_36 : (Jvm.Cond.fieldLink "ToneGraph$Meter" (36 : Nat) "ToneGraph$Meter" "zeros" "I") ∈ zAll := zt2 (List.mem_of_getElem? (i := 9) (by decide +kernel)) rfl
theorem wf_X6_249 : (Jvm.Cond.fieldLink "ToneGraph" (249 : Nat) "ToneGraph$Meter" "zeros" "I") ∈ zAll := zt2 (List.mem_of_getElem? (i := 10) (by decide +kernel)) rfl
theorem wc_X6_46 : (Jvm.Cond.classLink "ToneGraph" (46 : Nat) "ToneGraph$Envelope") ∈ zAll := zt2 (List.mem_of_getElem? (i := 22) (by decide +kernel)) rfl
theorem wm_X6_48 : (Jvm.Cond.methodLink "ToneGraph" (48 : Nat) ({ cls := "ToneGraph$Envelope", name := "<init>", desc := "(IIII)V" } : Jvm.MethodName)) ∈ zAll := zt2 (List.mem_of_getElem? (i := 23) (by decide +kernel)) rfl
theorem wf_X6_10 : (Jvm.Cond.fieldLink "ToneGraph" (10 : Nat) "ToneGraph" "board" "LToneGraph$Board;") ∈ zAll := zt2 (List.mem_of_getElem? (i := 24) (by decide +kernel)) rfl
theorem wf_X6_21 : (Jvm.Cond.fieldLink "ToneGraph" (21 : Nat) "ToneGraph" "live" "LToneGraph$Track;") ∈ zAll := zt2 (List.mem_of_getElem? (i := 25) (by decide +kernel)) rfl
theorem wf_X6_25 : (Jvm.Cond.fieldLink "ToneGraph" (25 : Nat) "ToneGraph" "trial" "LToneGraph$Track;") ∈ zAll := zt2 (List.mem_of_getElem? (i := 26) (by decide +kernel)) rfl
theorem wf_X6_31 : (Jvm.Cond.fieldLink "ToneGraph" (31 : Nat) "ToneGraph" "meter" "LToneGraph$Meter;") ∈ zAll := zt2 (List.mem_of_getElem? (i := 27) (by decide +kernel)) rfl
theorem wf_X6_35 : (Jvm.Cond.fieldLink "ToneGraph" (35 : Nat) "ToneGraph" "found" "[I") ∈ zAll := zt2 (List.mem_of_getElem? (i := 28) (by decide +kernel)) rfl
theorem wf_X6_39 : (Jvm.Cond.fieldLink "ToneGraph" (39 : Nat) "ToneGraph" "foundByBlocks" "[I") ∈ zAll := zt2 (List.mem_of_getElem? (i := 29) (by decide +kernel)) rfl
theorem wf_X6_42 : (Jvm.Cond.fieldLink "ToneGraph" (42 : Nat) "ToneGraph" "wave" "C") ∈ zAll := zt2 (List.mem_of_getElem? (i := 30) (by decide +kernel)) rfl
theorem wf_X6_51 : (Jvm.Cond.fieldLink "ToneGraph" (51 : Nat) "ToneGraph" "envelope" "LToneGraph$Envelope;") ∈ zAll := zt2 (List.mem_of_getElem? (i := 31) (by decide +kernel)) rfl
theorem wm_L_150 : (Jvm.Cond.methodLink "ToneGraphLaw" (150 : Nat) ({ cls := "ToneGraph", name := "nodes", desc := "()I" } : Jvm.MethodName)) ∈ zAll := zt2 (List.mem_of_getElem? (i := 49) (by decide +kernel)) rfl
theorem wi_X6_nodes : (Jvm.Cond.instanceMethod ({ cls := "ToneGraph", name := "nodes", desc := "()I" } : Jvm.MethodName)) ∈ zAll := zt2 (List.mem_of_getElem? (i := 50) (by decide +kernel)) rfl
theorem wv_X6_nodes : (Jvm.Cond.selects "ToneGraph" ({ cls := "ToneGraph", name := "nodes", desc := "()I" } : Jvm.MethodName) ({ cls := "ToneGraph", name := "nodes", desc := "()I" } : Jvm.MethodName)) ∈ zAll := zt2 (List.mem_of_getElem? (i := 51) (by decide +kernel)) rfl
theorem wcode_X6_nodes : (Jvm.Cond.code ({ cls := "ToneGraph", name := "nodes", desc := "()I" } : Jvm.MethodName) prog_1_method_10_code (1 : Nat) (Option.some Jvm.ClassFile.FieldType.int)) ∈ zAll := zt2 (List.mem_of_getElem? (i := 52) (by decide +kernel)) rfl
theorem wm_L_169 : (Jvm.Cond.methodLink "ToneGraphLaw" (169 : Nat) ({ cls := "ToneGraph", name := "longestBlock", desc := "()I" } : Jvm.MethodName)) ∈ zAll := zt2 (List.mem_of_getElem? (i := 53) (by decide +kernel)) rfl
theorem wi_X6_longestBlock : (Jvm.Cond.instanceMethod ({ cls := "ToneGraph", name := "longestBlock", desc := "()I" } : Jvm.MethodName)) ∈ zAll := zt2 (List.mem_of_getElem? (i := 54) (by decide +kernel)) rfl
theorem wv_X6_longestBlock : (Jvm.Cond.selects "ToneGraph" ({ cls := "ToneGraph", name := "longestBlock", desc := "()I" } : Jvm.MethodName) ({ cls := "ToneGraph", name := "longestBlock", desc := "()I" } : Jvm.MethodName)) ∈ zAll := zt2 (List.mem_of_getElem? (i := 55) (by decide +kernel)) rfl
theorem wcode_X6_longestBlock : (Jvm.Cond.code ({ cls := "ToneGraph", name := "longestBlock", desc := "()I" } : Jvm.MethodName) prog_1_method_16_code (1 : Nat) (Option.some Jvm.ClassFile.FieldType.int)) ∈ zAll := zt2 (List.mem_of_getElem? (i := 56) (by decide +kernel)) rfl
theorem wm_X6_158 : (Jvm.Cond.methodLink "ToneGraph" (158 : Nat) ({ cls := "ToneGraph$Board", name := "shortestDelay", desc := "()I" } : Jvm.MethodName)) ∈ zAll := zt2 (List.mem_of_getElem? (i := 57) (by decide +kernel)) rfl
theorem wi_X0_shortestDelay : (Jvm.Cond.instanceMethod ({ cls := "ToneGraph$Board", name := "shortestDelay", desc := "()I" } : Jvm.MethodName)) ∈ zAll := zt2 (List.mem_of_getElem? (i := 58) (by decide +kernel)) rfl
theorem wv_X0_shortestDelay : (Jvm.Cond.selects "ToneGraph$Board" ({ cls := "ToneGraph$Board", name := "shortestDelay", desc := "()I" } : Jvm.MethodName) ({ cls := "ToneGraph$Board", name := "shortestDelay", desc := "()I" } : Jvm.MethodName)) ∈ zAll := zt2 (List.mem_of_getElem? (i := 59) (by decide +kernel)) rfl
theorem wcode_X0_shortestDelay : (Jvm.Cond.code ({ cls := "ToneGraph$Board", name := "shortestDelay", desc := "()I" } : Jvm.MethodName) prog_2_method_11_code (3 : Nat) (Option.some Jvm.ClassFile.FieldType.int)) ∈ zAll := zt2 (List.mem_of_getElem? (i := 60) (by decide +kernel)) rfl
theorem wm_X0_69 : (Jvm.Cond.methodLink "ToneGraph$Board" (69 : Nat) ({ cls := "java/lang/Math", name := "min", desc := "(II)I" } : Jvm.MethodName)) ∈ zAll := zt2 (List.mem_of_getElem? (i := 61) (by decide +kernel)) rfl
theorem ws_Math_min : (Jvm.Cond.static ({ cls := "java/lang/Math", name := "min", desc := "(II)I" } : Jvm.MethodName)) ∈ zAll := zt2 (List.mem_of_getElem? (i := 62) (by decide +kernel)) rfl
theorem wcode_Math_min : (Jvm.Cond.code ({ cls := "java/lang/Math", name := "min", desc := "(II)I" } : Jvm.MethodName) prog_17_method_69_code (2 : Nat) (Option.some Jvm.ClassFile.FieldType.int)) ∈ zAll := zt2 (List.mem_of_getElem? (i := 63) (by decide +kernel)) rfl
theorem wm_L_187 : (Jvm.Cond.methodLink "ToneGraphLaw" (187 : Nat) ({ cls := "ToneGraph", name := "endAll", desc := "()I" } : Jvm.MethodName)) ∈ zAll := zt2 (List.mem_of_getElem? (i := 64) (by decide +kernel)) rfl
theorem wi_X6_endAll : (Jvm.Cond.instanceMethod ({ cls := "ToneGraph", name := "endAll", desc := "()I" } : Jvm.MethodName)) ∈ zAll := zt2 (List.mem_of_getElem? (i := 65) (by decide +kernel)) rfl
theorem wv_X6_endAll : (Jvm.Cond.selects "ToneGraph" ({ cls := "ToneGraph", name := "endAll", desc := "()I" } : Jvm.MethodName) ({ cls := "ToneGraph", name := "endAll", desc := "()I" } : Jvm.MethodName)) ∈ zAll := zt2 (List.mem_of_getElem? (i := 66) (by decide +kernel)) rfl
theorem wcode_X6_endAll : (Jvm.Cond.code ({ cls := "ToneGraph", name := "endAll", desc := "()I" } : Jvm.MethodName) prog_1_method_21_code (1 : Nat) (Option.some Jvm.ClassFile.FieldType.int)) ∈ zAll := zt2 (List.mem_of_getElem? (i := 67) (by decide +kernel)) rfl
theorem wm_X6_189 : (Jvm.Cond.methodLink "ToneGraph" (189 : Nat) ({ cls := "ToneGraph$Choir", name := "releaseEach", desc := "()I" } : Jvm.MethodName)) ∈ zAll := zt2 (List.mem_of_getElem? (i := 68) (by decide +kernel)) rfl
theorem wi_X1_releaseEach : (Jvm.Cond.instanceMethod ({ cls := "ToneGraph$Choir", name := "releaseEach", desc := "()I" } : Jvm.MethodName)) ∈ zAll := zt2 (List.mem_of_getElem? (i := 69) (by decide +kernel)) rfl
theorem wv_X1_releaseEach : (Jvm.Cond.selects "ToneGraph$Choir" ({ cls := "ToneGraph$Choir", name := "releaseEach", desc := "()I" } : Jvm.MethodName) ({ cls := "ToneGraph$Choir", name := "releaseEach", desc := "()I" } : Jvm.MethodName)) ∈ zAll := zt2 (List.mem_of_getElem? (i := 70) (by decide +kernel)) rfl
theorem wcode_X1_releaseEach : (Jvm.Cond.code ({ cls := "ToneGraph$Choir", name := "releaseEach", desc := "()I" } : Jvm.MethodName) prog_3_method_8_code (3 : Nat) (Option.some Jvm.ClassFile.FieldType.int)) ∈ zAll := zt2 (List.mem_of_getElem? (i := 71) (by decide +kernel)) rfl
theorem wm_X1_48 : (Jvm.Cond.methodLink "ToneGraph$Choir" (48 : Nat) ({ cls := "ToneGraph$Voice", name := "holds", desc := "(I)Z" } : Jvm.MethodName)) ∈ zAll := zt2 (List.mem_of_getElem? (i := 72) (by decide +kernel)) rfl
theorem wi_X5_holds : (Jvm.Cond.instanceMethod ({ cls := "ToneGraph$Voice", name := "holds", desc := "(I)Z" } : Jvm.MethodName)) ∈ zAll := zt2 (List.mem_of_getElem? (i := 73) (by decide +kernel)) rfl
theorem wv_X5_holds : (Jvm.Cond.selects "ToneGraph$Voice" ({ cls := "ToneGraph$Voice", name := "holds", desc := "(I)Z" } : Jvm.MethodName) ({ cls := "ToneGraph$Voice", name := "holds", desc := "(I)Z" } : Jvm.MethodName)) ∈ zAll := zt2 (List.mem_of_getElem? (i := 74) (by decide +kernel)) rfl
theorem wcode_X5_holds : (Jvm.Cond.code ({ cls := "ToneGraph$Voice", name := "holds", desc := "(I)Z" } : Jvm.MethodName) prog_7_method_6_code (2 : Nat) (Option.some Jvm.ClassFile.FieldType.boolean)) ∈ zAll := zt2 (List.mem_of_getElem? (i := 75) (by decide +kernel)) rfl
theorem wm_X1_59 : (Jvm.Cond.methodLink "ToneGraph$Choir" (59 : Nat) ({ cls := "ToneGraph$Choir", name := "releaseNote", desc := "(I)V" } : Jvm.MethodName)) ∈ zAll := zt2 (List.mem_of_getElem? (i := 76) (by decide +kernel)) rfl
theorem wi_X1_releaseNote : (Jvm.Cond.instanceMethod ({ cls := "ToneGraph$Choir", name := "releaseNote", desc := "(I)V" } : Jvm.MethodName)) ∈ zAll := zt2 (List.mem_of_getElem? (i := 77) (by decide +kernel)) rfl
theorem wv_X1_releaseNote : (Jvm.Cond.selects "ToneGraph$Choir" ({ cls := "ToneGraph$Choir", name := "releaseNote", desc := "(I)V" } : Jvm.MethodName) ({ cls := "ToneGraph$Choir", name := "releaseNote", desc := "(I)V" } : Jvm.MethodName)) ∈ zAll := zt2 (List.mem_of_getElem? (i := 78) (by decide +kernel)) rfl
theorem wcode_X1_releaseNote : (Jvm.Cond.code ({ cls := "ToneGraph$Choir", name := "releaseNote", desc := "(I)V" } : Jvm.MethodName) prog_3_method_7_code (2 : Nat) (Option.none : Option Jvm.ClassFile.FieldType)) ∈ zAll := zt2 (List.mem_of_getElem? (i := 79) (by decide +kernel)) rfl
theorem wm_X1_55 : (Jvm.Cond.methodLink "ToneGraph$Choir" (55 : Nat) ({ cls := "ToneGraph$Voice", name := "release", desc := "(I)V" } : Jvm.MethodName)) ∈ zAll := zt2 (List.mem_of_getElem? (i := 80) (by decide +kernel)) rfl
theorem wi_X5_release : (Jvm.Cond.instanceMethod ({ cls := "ToneGraph$Voice", name := "release", desc := "(I)V" } : Jvm.MethodName)) ∈ zAll := zt2 (List.mem_of_getElem? (i := 81) (by decide +kernel)) rfl
theorem wv_X5_release : (Jvm.Cond.selects "ToneGraph$Voice" ({ cls := "ToneGraph$Voice", name := "release", desc := "(I)V" } : Jvm.MethodName) ({ cls := "ToneGraph$Voice", name := "release", desc := "(I)V" } : Jvm.MethodName)) ∈ zAll := zt2 (List.mem_of_getElem? (i := 82) (by decide +kernel)) rfl
theorem wcode_X5_release : (Jvm.Cond.code ({ cls := "ToneGraph$Voice", name := "release", desc := "(I)V" } : Jvm.MethodName) prog_7_method_3_code (2 : Nat) (Option.none : Option Jvm.ClassFile.FieldType)) ∈ zAll := zt2 (List.mem_of_getElem? (i := 83) (by decide +kernel)) rfl
theorem wm_X5_54 : (Jvm.Cond.methodLink "ToneGraph$Voice" (54 : Nat) ({ cls := "ToneGraph$Voice", name := "level", desc := "()I" } : Jvm.MethodName)) ∈ zAll := zt2 (List.mem_of_getElem? (i := 84) (by decide +kernel)) rfl
theorem wi_X5_level : (Jvm.Cond.instanceMethod ({ cls := "ToneGraph$Voice", name := "level", desc := "()I" } : Jvm.MethodName)) ∈ zAll := zt2 (List.mem_of_getElem? (i := 85) (by decide +kernel)) rfl
theorem wv_X5_level : (Jvm.Cond.selects "ToneGraph$Voice" ({ cls := "ToneGraph$Voice", name := "level", desc := "()I" } : Jvm.MethodName) ({ cls := "ToneGraph$Voice", name := "level", desc := "()I" } : Jvm.MethodName)) ∈ zAll := zt2 (List.mem_of_getElem? (i := 86) (by decide +kernel)) rfl
theorem wcode_X5_level : (Jvm.Cond.code ({ cls := "ToneGraph$Voice", name := "level", desc := "()I" } : Jvm.MethodName) prog_7_method_8_code (4 : Nat) (Option.some Jvm.ClassFile.FieldType.int)) ∈ zAll := zt2 (List.mem_of_getElem? (i := 87) (by decide +kernel)) rfl
theorem wm_L_191 : (Jvm.Cond.methodLink "ToneGraphLaw" (191 : Nat) ({ cls := "ToneGraph", name := "sounding", desc := "()I" } : Jvm.MethodName)) ∈ zAll := zt2 (List.mem_of_getElem? (i := 88) (by decide +kernel)) rfl
theorem wi_X6_sounding : (Jvm.Cond.instanceMethod ({ cls := "ToneGraph", name := "sounding", desc := "()I" } : Jvm.MethodName)) ∈ zAll := zt2 (List.mem_of_getElem? (i := 89) (by decide +kernel)) rfl
theorem wv_X6_sounding : (Jvm.Cond.selects "ToneGraph" ({ cls := "ToneGraph", name := "sounding", desc := "()I" } : Jvm.MethodName) ({ cls := "ToneGraph", name := "sounding", desc := "()I" } : Jvm.MethodName)) ∈ zAll := zt2 (List.mem_of_getElem? (i := 90) (by decide +kernel)) rfl
theorem wcode_X6_sounding : (Jvm.Cond.code ({ cls := "ToneGraph", name := "sounding", desc := "()I" } : Jvm.MethodName) prog_1_method_22_code (1 : Nat) (Option.some Jvm.ClassFile.FieldType.int)) ∈ zAll := zt2 (List.mem_of_getElem? (i := 91) (by decide +kernel)) rfl
theorem wm_X6_192 : (Jvm.Cond.methodLink "ToneGraph" (192 : Nat) ({ cls := "ToneGraph$Choir", name := "countPlaying", desc := "()I" } : Jvm.MethodName)) ∈ zAll := zt2 (List.mem_of_getElem? (i := 92) (by decide +kernel)) rfl
theorem wi_X1_countPlaying : (Jvm.Cond.instanceMethod ({ cls := "ToneGraph$Choir", name := "countPlaying", desc := "()I" } : Jvm.MethodName)) ∈ zAll := zt2 (List.mem_of_getElem? (i := 93) (by decide +kernel)) rfl
theorem wv_X1_countPlaying : (Jvm.Cond.selects "ToneGraph$Choir" ({ cls := "ToneGraph$Choir", name := "countPlaying", desc := "()I" } : Jvm.MethodName) ({ cls := "ToneGraph$Choir", name := "countPlaying", desc := "()I" } : Jvm.MethodName)) ∈ zAll := zt2 (List.mem_of_getElem? (i := 94) (by decide +kernel)) rfl
theorem wcode_X1_countPlaying : (Jvm.Cond.code ({ cls := "ToneGraph$Choir", name := "countPlaying", desc := "()I" } : Jvm.MethodName) prog_3_method_9_code (3 : Nat) (Option.some Jvm.ClassFile.FieldType.int)) ∈ zAll := zt2 (List.mem_of_getElem? (i := 95) (by decide +kernel)) rfl
theorem wm_L_207 : (Jvm.Cond.methodLink "ToneGraphLaw" (207 : Nat) ({ cls := "ToneGraph", name := "stolen", desc := "()I" } : Jvm.MethodName)) ∈ zAll := zt2 (List.mem_of_getElem? (i := 96) (by decide +kernel)) rfl
theorem wi_X6_stolen : (Jvm.Cond.instanceMethod ({ cls := "ToneGraph", name := "stolen", desc := "()I" } : Jvm.MethodName)) ∈ zAll := zt2 (List.mem_of_getElem? (i := 97) (by decide +kernel)) rfl
theorem wv_X6_stolen : (Jvm.Cond.selects "ToneGraph" ({ cls := "ToneGraph", name := "stolen", desc := "()I" } : Jvm.MethodName) ({ cls := "ToneGraph", name := "stolen", desc := "()I" } : Jvm.MethodName)) ∈ zAll := zt2 (List.mem_of_getElem? (i := 98) (by decide +kernel)) rfl
theorem wcode_X6_stolen : (Jvm.Cond.code ({ cls := "ToneGraph", name := "stolen", desc := "()I" } : Jvm.MethodName) prog_1_method_27_code (1 : Nat) (Option.some Jvm.ClassFile.FieldType.int)) ∈ zAll := zt2 (List.mem_of_getElem? (i := 99) (by decide +kernel)) rfl
theorem wm_L_214 : (Jvm.Cond.methodLink "ToneGraphLaw" (214 : Nat) ({ cls := "ToneGraph", name := "step", desc := "()I" } : Jvm.MethodName)) ∈ zAll := zt2 (List.mem_of_getElem? (i := 100) (by decide +kernel)) rfl
theorem wi_X6_step : (Jvm.Cond.instanceMethod ({ cls := "ToneGraph", name := "step", desc := "()I" } : Jvm.MethodName)) ∈ zAll := zt2 (List.mem_of_getElem? (i := 101) (by decide +kernel)) rfl
theorem wv_X6_step : (Jvm.Cond.selects "ToneGraph" ({ cls := "ToneGraph", name := "step", desc := "()I" } : Jvm.MethodName) ({ cls := "ToneGraph", name := "step", desc := "()I" } : Jvm.MethodName)) ∈ zAll := zt2 (List.mem_of_getElem? (i := 102) (by decide +kernel)) rfl
theorem wcode_X6_step : (Jvm.Cond.code ({ cls := "ToneGraph", name := "step", desc := "()I" } : Jvm.MethodName) prog_1_method_29_code (1 : Nat) (Option.some Jvm.ClassFile.FieldType.int)) ∈ zAll := zt2 (List.mem_of_getElem? (i := 103) (by decide +kernel)) rfl
theorem wm_X6_223 : (Jvm.Cond.methodLink "ToneGraph" (223 : Nat) ({ cls := "ToneGraph", name := "perform", desc := "(II)I" } : Jvm.MethodName)) ∈ zAll := zt2 (List.mem_of_getElem? (i := 104) (by decide +kernel)) rfl
theorem wi_X6_perform : (Jvm.Cond.instanceMethod ({ cls := "ToneGraph", name := "perform", desc := "(II)I" } : Jvm.MethodName)) ∈ zAll := zt2 (List.mem_of_getElem? (i := 106) (by decide +kernel)) rfl
theorem wcode_X6_perform : (Jvm.Cond.code ({ cls := "ToneGraph", name := "perform", desc := "(II)I" } : Jvm.MethodName) prog_1_method_40_code (4 : Nat) (Option.some Jvm.ClassFile.FieldType.int)) ∈ zAll := zt2 (List.mem_of_getElem? (i := 107) (by decide +kernel)) rfl
theorem wm_X6_259 : (Jvm.Cond.methodLink "ToneGraph" (259 : Nat) ({ cls := "ToneGraph$Track", name := "find", desc := "(II[I)V" } : Jvm.MethodName)) ∈ zAll := zt2 (List.mem_of_getElem? (i := 108) (by decide +kernel)) rfl
theorem wi_X4_find : (Jvm.Cond.instanceMethod ({ cls := "ToneGraph$Track", name := "find", desc := "(II[I)V" } : Jvm.MethodName)) ∈ zAll := zt2 (List.mem_of_getElem? (i := 109) (by decide +kernel)) rfl
theorem wv_X4_find : (Jvm.Cond.selects "ToneGraph$Track" ({ cls := "ToneGraph$Track", name := "find", desc := "(II[I)V" } : Jvm.MethodName) ({ cls := "ToneGraph$Track", name := "find", desc := "(II[I)V" } : Jvm.MethodName)) ∈ zAll := zt2 (List.mem_of_getElem? (i := 110) (by decide +kernel)) rfl
theorem wcode_X4_find : (Jvm.Cond.code ({ cls := "ToneGraph$Track", name := "find", desc := "(II[I)V" } : Jvm.MethodName) prog_6_method_3_code (7 : Nat) (Option.none : Option Jvm.ClassFile.FieldType)) ∈ zAll := zt2 (List.mem_of_getElem? (i := 111) (by decide +kernel)) rfl
theorem wm_X4_60 : (Jvm.Cond.methodLink "ToneGraph$Track" (60 : Nat) ({ cls := "ToneGraph$Board", name := "shortestDelay", desc := "()I" } : Jvm.MethodName)) ∈ zAll := zt2 (List.mem_of_getElem? (i := 112) (by decide +kernel)) rfl
theorem wm_X4_64 : (Jvm.Cond.methodLink "ToneGraph$Track" (64 : Nat) ({ cls := "java/lang/Math", name := "min", desc := "(II)I" } : Jvm.MethodName)) ∈ zAll := zt2 (List.mem_of_getElem? (i := 113) (by decide +kernel)) rfl
theorem wm_X4_70 : (Jvm.Cond.methodLink "ToneGraph$Track" (70 : Nat) ({ cls := "java/lang/Math", name := "max", desc := "(II)I" } : Jvm.MethodName)) ∈ zAll := zt2 (List.mem_of_getElem? (i := 114) (by decide +kernel)) rfl
theorem ws_Math_max : (Jvm.Cond.static ({ cls := "java/lang/Math", name := "max", desc := "(II)I" } : Jvm.MethodName)) ∈ zAll := zt2 (List.mem_of_getElem? (i := 115) (by decide +kernel)) rfl
theorem wcode_Math_max : (Jvm.Cond.code ({ cls := "java/lang/Math", name := "max", desc := "(II)I" } : Jvm.MethodName) prog_17_method_65_code (2 : Nat) (Option.some Jvm.ClassFile.FieldType.int)) ∈ zAll := zt2 (List.mem_of_getElem? (i := 116) (by decide +kernel)) rfl
theorem wm_X4_73 : (Jvm.Cond.methodLink "ToneGraph$Track" (73 : Nat) ({ cls := "ToneGraph$Track", name := "findBlock", desc := "(I)V" } : Jvm.MethodName)) ∈ zAll := zt2 (List.mem_of_getElem? (i := 117) (by decide +kernel)) rfl
theorem wi_X4_findBlock : (Jvm.Cond.instanceMethod ({ cls := "ToneGraph$Track", name := "findBlock", desc := "(I)V" } : Jvm.MethodName)) ∈ zAll := zt2 (List.mem_of_getElem? (i := 118) (by decide +kernel)) rfl
theorem wv_X4_findBlock : (Jvm.Cond.selects "ToneGraph$Track" ({ cls := "ToneGraph$Track", name := "findBlock", desc := "(I)V" } : Jvm.MethodName) ({ cls := "ToneGraph$Track", name := "findBlock", desc := "(I)V" } : Jvm.MethodName)) ∈ zAll := zt2 (List.mem_of_getElem? (i := 119) (by decide +kernel)) rfl
theorem wcode_X4_findBlock : (Jvm.Cond.code ({ cls := "ToneGraph$Track", name := "findBlock", desc := "(I)V" } : Jvm.MethodName) prog_6_method_4_code (5 : Nat) (Option.none : Option Jvm.ClassFile.FieldType)) ∈ zAll := zt2 (List.mem_of_getElem? (i := 120) (by decide +kernel)) rfl
theorem wm_X4_83 : (Jvm.Cond.methodLink "ToneGraph$Track" (83 : Nat) ({ cls := "ToneGraph$Track", name := "findVoices", desc := "(II)V" } : Jvm.MethodName)) ∈ zAll := zt2 (List.mem_of_getElem? (i := 121) (by decide +kernel)) rfl
theorem wi_X4_findVoices : (Jvm.Cond.instanceMethod ({ cls := "ToneGraph$Track", name := "findVoices", desc := "(II)V" } : Jvm.MethodName)) ∈ zAll := zt2 (List.mem_of_getElem? (i := 122) (by decide +kernel)) rfl
theorem wv_X4_findVoices : (Jvm.Cond.selects "ToneGraph$Track" ({ cls := "ToneGraph$Track", name := "findVoices", desc := "(II)V" } : Jvm.MethodName) ({ cls := "ToneGraph$Track", name := "findVoices", desc := "(II)V" } : Jvm.MethodName)) ∈ zAll := zt2 (List.mem_of_getElem? (i := 123) (by decide +kernel)) rfl
theorem wcode_X4_findVoices : (Jvm.Cond.code ({ cls := "ToneGraph$Track", name := "findVoices", desc := "(II)V" } : Jvm.MethodName) prog_6_method_5_code (5 : Nat) (Option.none : Option Jvm.ClassFile.FieldType)) ∈ zAll := zt2 (List.mem_of_getElem? (i := 124) (by decide +kernel)) rfl
theorem wm_X4_106 : (Jvm.Cond.methodLink "ToneGraph$Track" (106 : Nat) ({ cls := "ToneGraph$Voice", name := "addSamples", desc := "([II)V" } : Jvm.MethodName)) ∈ zAll := zt2 (List.mem_of_getElem? (i := 125) (by decide +kernel)) rfl
theorem wi_X5_addSamples : (Jvm.Cond.instanceMethod ({ cls := "ToneGraph$Voice", name := "addSamples", desc := "([II)V" } : Jvm.MethodName)) ∈ zAll := zt2 (List.mem_of_getElem? (i := 126) (by decide +kernel)) rfl
theorem wv_X5_addSamples : (Jvm.Cond.selects "ToneGraph$Voice" ({ cls := "ToneGraph$Voice", name := "addSamples", desc := "([II)V" } : Jvm.MethodName) ({ cls := "ToneGraph$Voice", name := "addSamples", desc := "([II)V" } : Jvm.MethodName)) ∈ zAll := zt2 (List.mem_of_getElem? (i := 127) (by decide +kernel)) rfl
theorem wcode_X5_addSamples : (Jvm.Cond.code ({ cls := "ToneGraph$Voice", name := "addSamples", desc := "([II)V" } : Jvm.MethodName) prog_7_method_4_code (5 : Nat) (Option.none : Option Jvm.ClassFile.FieldType)) ∈ zAll := zt2 (List.mem_of_getElem? (i := 128) (by decide +kernel)) rfl
theorem wm_X5_70 : (Jvm.Cond.methodLink "ToneGraph$Voice" (70 : Nat) ({ cls := "ToneGraph$Voice", name := "waveValue", desc := "()I" } : Jvm.MethodName)) ∈ zAll := zt2 (List.mem_of_getElem? (i := 129) (by decide +kernel)) rfl
theorem wi_X5_waveValue : (Jvm.Cond.instanceMethod ({ cls := "ToneGraph$Voice", name := "waveValue", desc := "()I" } : Jvm.MethodName)) ∈ zAll := zt2 (List.mem_of_getElem? (i := 130) (by decide +kernel)) rfl
theorem wv_X5_waveValue : (Jvm.Cond.selects "ToneGraph$Voice" ({ cls := "ToneGraph$Voice", name := "waveValue", desc := "()I" } : Jvm.MethodName) ({ cls := "ToneGraph$Voice", name := "waveValue", desc := "()I" } : Jvm.MethodName)) ∈ zAll := zt2 (List.mem_of_getElem? (i := 131) (by decide +kernel)) rfl
theorem wcode_X5_waveValue : (Jvm.Cond.code ({ cls := "ToneGraph$Voice", name := "waveValue", desc := "()I" } : Jvm.MethodName) prog_7_method_10_code (2 : Nat) (Option.some Jvm.ClassFile.FieldType.int)) ∈ zAll := zt2 (List.mem_of_getElem? (i := 132) (by decide +kernel)) rfl
theorem wk_X5_90 : (Jvm.Cond.constant "ToneGraph$Voice" (90 : Nat) (32768 : Int32)) ∈ zAll := zt2 (List.mem_of_getElem? (i := 133) (by decide +kernel)) rfl
theorem wk_X5_80 : (Jvm.Cond.constant "ToneGraph$Voice" (80 : Nat) (65535 : Int32)) ∈ zAll := zt2 (List.mem_of_getElem? (i := 134) (by decide +kernel)) rfl
theorem ws_X6_partOf : (Jvm.Cond.static ({ cls := "ToneGraph", name := "partOf", desc := "(II)I" } : Jvm.MethodName)) ∈ zAll := zt2 (List.mem_of_getElem? (i := 136) (by decide +kernel)) rfl
theorem wcode_X6_partOf : (Jvm.Cond.code ({ cls := "ToneGraph", name := "partOf", desc := "(II)I" } : Jvm.MethodName) prog_1_method_51_code (2 : Nat) (Option.some Jvm.ClassFile.FieldType.int)) ∈ zAll := zt2 (List.mem_of_getElem? (i := 137) (by decide +kernel)) rfl
theorem wm_X5_77 : (Jvm.Cond.methodLink "ToneGraph$Voice" (77 : Nat) ({ cls := "ToneGraph$Voice", name := "moveOn", desc := "()V" } : Jvm.MethodName)) ∈ zAll := zt2 (List.mem_of_getElem? (i := 138) (by decide +kernel)) rfl
theorem wi_X5_moveOn : (Jvm.Cond.instanceMethod ({ cls := "ToneGraph$Voice", name := "moveOn", desc := "()V" } : Jvm.MethodName)) ∈ zAll := zt2 (List.mem_of_getElem? (i := 139) (by decide +kernel)) rfl
theorem wv_X5_moveOn : (Jvm.Cond.selects "ToneGraph$Voice" ({ cls := "ToneGraph$Voice", name := "moveOn", desc := "()V" } : Jvm.MethodName) ({ cls := "ToneGraph$Voice", name := "moveOn", desc := "()V" } : Jvm.MethodName)) ∈ zAll := zt2 (List.mem_of_getElem? (i := 140) (by decide +kernel)) rfl
theorem wcode_X5_moveOn : (Jvm.Cond.code ({ cls := "ToneGraph$Voice", name := "moveOn", desc := "()V" } : Jvm.MethodName) prog_7_method_5_code (1 : Nat) (Option.none : Option Jvm.ClassFile.FieldType)) ∈ zAll := zt2 (List.mem_of_getElem? (i := 141) (by decide +kernel)) rfl
theorem ws_X6_cut : (Jvm.Cond.static ({ cls := "ToneGraph", name := "cut", desc := "(I)I" } : Jvm.MethodName)) ∈ zAll := zt2 (List.mem_of_getElem? (i := 143) (by decide +kernel)) rfl
theorem wcode_X6_cut : (Jvm.Cond.code ({ cls := "ToneGraph", name := "cut", desc := "(I)I" } : Jvm.MethodName) prog_1_method_50_code (1 : Nat) (Option.some Jvm.ClassFile.FieldType.int)) ∈ zAll := zt2 (List.mem_of_getElem? (i := 144) (by decide +kernel)) rfl
theorem wm_X6_291 : (Jvm.Cond.methodLink "ToneGraph" (291 : Nat) ({ cls := "java/lang/Math", name := "min", desc := "(II)I" } : Jvm.MethodName)) ∈ zAll := zt2 (List.mem_of_getElem? (i := 145) (by decide +kernel)) rfl
theorem wm_X6_296 : (Jvm.Cond.methodLink "ToneGraph" (296 : Nat) ({ cls := "java/lang/Math", name := "max", desc := "(II)I" } : Jvm.MethodName)) ∈ zAll := zt2 (List.mem_of_getElem? (i := 146) (by decide +kernel)) rfl
theorem wm_X4_87 : (Jvm.Cond.methodLink "ToneGraph$Track" (87 : Nat) ({ cls := "ToneGraph$Track", name := "findGain", desc := "(II)V" } : Jvm.MethodName)) ∈ zAll := zt2 (List.mem_of_getElem? (i := 147) (by decide +kernel)) rfl
theorem wi_X4_findGain : (Jvm.Cond.instanceMethod ({ cls := "ToneGraph$Track", name := "findGain", desc := "(II)V" } : Jvm.MethodName)) ∈ zAll := zt2 (List.mem_of_getElem? (i := 148) (by decide +kernel)) rfl
theorem wv_X4_findGain : (Jvm.Cond.selects "ToneGraph$Track" ({ cls := "ToneGraph$Track", name := "findGain", desc := "(II)V" } : Jvm.MethodName) ({ cls := "ToneGraph$Track", name := "findGain", desc := "(II)V" } : Jvm.MethodName)) ∈ zAll := zt2 (List.mem_of_getElem? (i := 149) (by decide +kernel)) rfl
theorem wcode_X4_findGain : (Jvm.Cond.code ({ cls := "ToneGraph$Track", name := "findGain", desc := "(II)V" } : Jvm.MethodName) prog_6_method_6_code (4 : Nat) (Option.none : Option Jvm.ClassFile.FieldType)) ∈ zAll := zt2 (List.mem_of_getElem? (i := 150) (by decide +kernel)) rfl
theorem wm_X4_116 : (Jvm.Cond.methodLink "ToneGraph$Track" (116 : Nat) ({ cls := "ToneGraph$Track", name := "inputAt", desc := "(II)I" } : Jvm.MethodName)) ∈ zAll := zt2 (List.mem_of_getElem? (i := 151) (by decide +kernel)) rfl
theorem wi_X4_inputAt : (Jvm.Cond.instanceMethod ({ cls := "ToneGraph$Track", name := "inputAt", desc := "(II)I" } : Jvm.MethodName)) ∈ zAll := zt2 (List.mem_of_getElem? (i := 152) (by decide +kernel)) rfl
theorem wv_X4_inputAt : (Jvm.Cond.selects "ToneGraph$Track" ({ cls := "ToneGraph$Track", name := "inputAt", desc := "(II)I" } : Jvm.MethodName) ({ cls := "ToneGraph$Track", name := "inputAt", desc := "(II)I" } : Jvm.MethodName)) ∈ zAll := zt2 (List.mem_of_getElem? (i := 153) (by decide +kernel)) rfl
theorem wcode_X4_inputAt : (Jvm.Cond.code ({ cls := "ToneGraph$Track", name := "inputAt", desc := "(II)I" } : Jvm.MethodName) prog_6_method_13_code (6 : Nat) (Option.some Jvm.ClassFile.FieldType.int)) ∈ zAll := zt2 (List.mem_of_getElem? (i := 154) (by decide +kernel)) rfl
theorem wm_X4_90 : (Jvm.Cond.methodLink "ToneGraph$Track" (90 : Nat) ({ cls := "ToneGraph$Track", name := "findDelay", desc := "(II)V" } : Jvm.MethodName)) ∈ zAll := zt2 (List.mem_of_getElem? (i := 156) (by decide +kernel)) rfl
theorem wi_X4_findDelay : (Jvm.Cond.instanceMethod ({ cls := "ToneGraph$Track", name := "findDelay", desc := "(II)V" } : Jvm.MethodName)) ∈ zAll := zt2 (List.mem_of_getElem? (i := 157) (by decide +kernel)) rfl
theorem wv_X4_findDelay : (Jvm.Cond.selects "ToneGraph$Track" ({ cls := "ToneGraph$Track", name := "findDelay", desc := "(II)V" } : Jvm.MethodName) ({ cls := "ToneGraph$Track", name := "findDelay", desc := "(II)V" } : Jvm.MethodName)) ∈ zAll := zt2 (List.mem_of_getElem? (i := 158) (by decide +kernel)) rfl
theorem wcode_X4_findDelay : (Jvm.Cond.code ({ cls := "ToneGraph$Track", name := "findDelay", desc := "(II)V" } : Jvm.MethodName) prog_6_method_7_code (5 : Nat) (Option.none : Option Jvm.ClassFile.FieldType)) ∈ zAll := zt2 (List.mem_of_getElem? (i := 159) (by decide +kernel)) rfl
theorem wm_X4_125 : (Jvm.Cond.methodLink "ToneGraph$Track" (125 : Nat) ({ cls := "ToneGraph$Track", name := "nextOldest", desc := "(II)I" } : Jvm.MethodName)) ∈ zAll := zt2 (List.mem_of_getElem? (i := 160) (by decide +kernel)) rfl
theorem wi_X4_nextOldest : (Jvm.Cond.instanceMethod ({ cls := "ToneGraph$Track", name := "nextOldest", desc := "(II)I" } : Jvm.MethodName)) ∈ zAll := zt2 (List.mem_of_getElem? (i := 161) (by decide +kernel)) rfl
theorem wv_X4_nextOldest : (Jvm.Cond.selects "ToneGraph$Track" ({ cls := "ToneGraph$Track", name := "nextOldest", desc := "(II)I" } : Jvm.MethodName) ({ cls := "ToneGraph$Track", name := "nextOldest", desc := "(II)I" } : Jvm.MethodName)) ∈ zAll := zt2 (List.mem_of_getElem? (i := 162) (by decide +kernel)) rfl
theorem wcode_X4_nextOldest : (Jvm.Cond.code ({ cls := "ToneGraph$Track", name := "nextOldest", desc := "(II)I" } : Jvm.MethodName) prog_6_method_9_code (3 : Nat) (Option.some Jvm.ClassFile.FieldType.int)) ∈ zAll := zt2 (List.mem_of_getElem? (i := 163) (by decide +kernel)) rfl
theorem wm_X4_93 : (Jvm.Cond.methodLink "ToneGraph$Track" (93 : Nat) ({ cls := "ToneGraph$Track", name := "findFilter", desc := "(II)V" } : Jvm.MethodName)) ∈ zAll := zt2 (List.mem_of_getElem? (i := 164) (by decide +kernel)) rfl
theorem wi_X4_findFilter : (Jvm.Cond.instanceMethod ({ cls := "ToneGraph$Track", name := "findFilter", desc := "(II)V" } : Jvm.MethodName)) ∈ zAll := zt2 (List.mem_of_getElem? (i := 165) (by decide +kernel)) rfl
theorem wv_X4_findFilter : (Jvm.Cond.selects "ToneGraph$Track" ({ cls := "ToneGraph$Track", name := "findFilter", desc := "(II)V" } : Jvm.MethodName) ({ cls := "ToneGraph$Track", name := "findFilter", desc := "(II)V" } : Jvm.MethodName)) ∈ zAll := zt2 (List.mem_of_getElem? (i := 166) (by decide +kernel)) rfl
theorem wcode_X4_findFilter : (Jvm.Cond.code ({ cls := "ToneGraph$Track", name := "findFilter", desc := "(II)V" } : Jvm.MethodName) prog_6_method_10_code (8 : Nat) (Option.none : Option Jvm.ClassFile.FieldType)) ∈ zAll := zt2 (List.mem_of_getElem? (i := 167) (by decide +kernel)) rfl
theorem wm_X4_96 : (Jvm.Cond.methodLink "ToneGraph$Track" (96 : Nat) ({ cls := "ToneGraph$Track", name := "findBus", desc := "(II)V" } : Jvm.MethodName)) ∈ zAll := zt2 (List.mem_of_getElem? (i := 168) (by decide +kernel)) rfl
theorem wi_X4_findBus : (Jvm.Cond.instanceMethod ({ cls := "ToneGraph$Track", name := "findBus", desc := "(II)V" } : Jvm.MethodName)) ∈ zAll := zt2 (List.mem_of_getElem? (i := 169) (by decide +kernel)) rfl
theorem wv_X4_findBus : (Jvm.Cond.selects "ToneGraph$Track" ({ cls := "ToneGraph$Track", name := "findBus", desc := "(II)V" } : Jvm.MethodName) ({ cls := "ToneGraph$Track", name := "findBus", desc := "(II)V" } : Jvm.MethodName)) ∈ zAll := zt2 (List.mem_of_getElem? (i := 170) (by decide +kernel)) rfl
theorem wcode_X4_findBus : (Jvm.Cond.code ({ cls := "ToneGraph$Track", name := "findBus", desc := "(II)V" } : Jvm.MethodName) prog_6_method_11_code (4 : Nat) (Option.none : Option Jvm.ClassFile.FieldType)) ∈ zAll := zt2 (List.mem_of_getElem? (i := 171) (by decide +kernel)) rfl
theorem wm_X4_146 : (Jvm.Cond.methodLink "ToneGraph$Track" (146 : Nat) ({ cls := "ToneGraph$Track", name := "limited", desc := "(II)I" } : Jvm.MethodName)) ∈ zAll := zt2 (List.mem_of_getElem? (i := 172) (by decide +kernel)) rfl
theorem ws_X4_limited : (Jvm.Cond.static ({ cls := "ToneGraph$Track", name := "limited", desc := "(II)I" } : Jvm.MethodName)) ∈ zAll := zt2 (List.mem_of_getElem? (i := 173) (by decide +kernel)) rfl
theorem wcode_X4_limited : (Jvm.Cond.code ({ cls := "ToneGraph$Track", name := "limited", desc := "(II)I" } : Jvm.MethodName) prog_6_method_12_code (4 : Nat) (Option.some Jvm.ClassFile.FieldType.int)) ∈ zAll := zt2 (List.mem_of_getElem? (i := 174) (by decide +kernel)) rfl
theorem wm_X4_149 : (Jvm.Cond.methodLink "ToneGraph$Track" (149 : Nat) ({ cls := "java/lang/Math", name := "abs", desc := "(I)I" } : Jvm.MethodName)) ∈ zAll := zt2 (List.mem_of_getElem? (i := 175) (by decide +kernel)) rfl
theorem ws_Math_abs : (Jvm.Cond.static ({ cls := "java/lang/Math", name := "abs", desc := "(I)I" } : Jvm.MethodName)) ∈ zAll := zt2 (List.mem_of_getElem? (i := 176) (by decide +kernel)) rfl
theorem wcode_Math_abs : (Jvm.Cond.code ({ cls := "java/lang/Math", name := "abs", desc := "(I)I" } : Jvm.MethodName) prog_17_method_59_code (1 : Nat) (Option.some Jvm.ClassFile.FieldType.int)) ∈ zAll := zt2 (List.mem_of_getElem? (i := 177) (by decide +kernel)) rfl
theorem wm_X4_99 : (Jvm.Cond.methodLink "ToneGraph$Track" (99 : Nat) ({ cls := "ToneGraph$Track", name := "feedDelay", desc := "(II)V" } : Jvm.MethodName)) ∈ zAll := zt2 (List.mem_of_getElem? (i := 178) (by decide +kernel)) rfl
theorem wi_X4_feedDelay : (Jvm.Cond.instanceMethod ({ cls := "ToneGraph$Track", name := "feedDelay", desc := "(II)V" } : Jvm.MethodName)) ∈ zAll := zt2 (List.mem_of_getElem? (i := 179) (by decide +kernel)) rfl
theorem wv_X4_feedDelay : (Jvm.Cond.selects "ToneGraph$Track" ({ cls := "ToneGraph$Track", name := "feedDelay", desc := "(II)V" } : Jvm.MethodName) ({ cls := "ToneGraph$Track", name := "feedDelay", desc := "(II)V" } : Jvm.MethodName)) ∈ zAll := zt2 (List.mem_of_getElem? (i := 180) (by decide +kernel)) rfl
theorem wcode_X4_feedDelay : (Jvm.Cond.code ({ cls := "ToneGraph$Track", name := "feedDelay", desc := "(II)V" } : Jvm.MethodName) prog_6_method_8_code (6 : Nat) (Option.none : Option Jvm.ClassFile.FieldType)) ∈ zAll := zt2 (List.mem_of_getElem? (i := 181) (by decide +kernel)) rfl
theorem wm_X4_54 : (Jvm.Cond.methodLink "ToneGraph$Track" (54 : Nat) ({ cls := "java/lang/System", name := "arraycopy", desc := "(Ljava/lang/Object;ILjava/lang/Object;II)V" } : Jvm.MethodName)) ∈ zAll := zt2 (List.mem_of_getElem? (i := 182) (by decide +kernel)) rfl
theorem ws_System_arraycopy : (Jvm.Cond.static ({ cls := "java/lang/System", name := "arraycopy", desc := "(Ljava/lang/Object;ILjava/lang/Object;II)V" } : Jvm.MethodName)) ∈ zAll := zt2 (List.mem_of_getElem? (i := 183) (by decide +kernel)) rfl
theorem wnat_System_arraycopy : (Jvm.Cond.native ({ cls := "java/lang/System", name := "arraycopy", desc := "(Ljava/lang/Object;ILjava/lang/Object;II)V" } : Jvm.MethodName)) ∈ zAll := zt2 (List.mem_of_getElem? (i := 184) (by decide +kernel)) rfl
theorem wm_X6_262 : (Jvm.Cond.methodLink "ToneGraph" (262 : Nat) ({ cls := "ToneGraph$Meter", name := "note", desc := "(I)V" } : Jvm.MethodName)) ∈ zAll := zt2 (List.mem_of_getElem? (i := 185) (by decide +kernel)) rfl
theorem wi_X3_note : (Jvm.Cond.instanceMethod ({ cls := "ToneGraph$Meter", name := "note", desc := "(I)V" } : Jvm.MethodName)) ∈ zAll := zt2 (List.mem_of_getElem? (i := 186) (by decide +kernel)) rfl
theorem wv_X3_note : (Jvm.Cond.selects "ToneGraph$Meter" ({ cls := "ToneGraph$Meter", name := "note", desc := "(I)V" } : Jvm.MethodName) ({ cls := "ToneGraph$Meter", name := "note", desc := "(I)V" } : Jvm.MethodName)) ∈ zAll := zt2 (List.mem_of_getElem? (i := 187) (by decide +kernel)) rfl
theorem wcode_X3_note : (Jvm.Cond.code ({ cls := "ToneGraph$Meter", name := "note", desc := "(I)V" } : Jvm.MethodName) prog_5_method_2_code (2 : Nat) (Option.none : Option Jvm.ClassFile.FieldType)) ∈ zAll := zt2 (List.mem_of_getElem? (i := 188) (by decide +kernel)) rfl
theorem wm_X3_22 : (Jvm.Cond.methodLink "ToneGraph$Meter" (22 : Nat) ({ cls := "java/lang/Math", name := "abs", desc := "(I)I" } : Jvm.MethodName)) ∈ zAll := zt2 (List.mem_of_getElem? (i := 189) (by decide +kernel)) rfl
theorem wm_X3_28 : (Jvm.Cond.methodLink "ToneGraph$Meter" (28 : Nat) ({ cls := "java/lang/Math", name := "max", desc := "(II)I" } : Jvm.MethodName)) ∈ zAll := zt2 (List.mem_of_getElem? (i := 190) (by decide +kernel)) rfl
theorem wm_L_230 : (Jvm.Cond.methodLink "ToneGraphLaw" (230 : Nat) ({ cls := "ToneGraph", name := "time", desc := "()I" } : Jvm.MethodName)) ∈ zAll := zt2 (List.mem_of_getElem? (i := 191) (by decide +kernel)) rfl
theorem wi_X6_time : (Jvm.Cond.instanceMethod ({ cls := "ToneGraph", name := "time", desc := "()I" } : Jvm.MethodName)) ∈ zAll := zt2 (List.mem_of_getElem? (i := 192) (by decide +kernel)) rfl
theorem wv_X6_time : (Jvm.Cond.selects "ToneGraph" ({ cls := "ToneGraph", name := "time", desc := "()I" } : Jvm.MethodName) ({ cls := "ToneGraph", name := "time", desc := "()I" } : Jvm.MethodName)) ∈ zAll := zt2 (List.mem_of_getElem? (i := 193) (by decide +kernel)) rfl
theorem wcode_X6_time : (Jvm.Cond.code ({ cls := "ToneGraph", name := "time", desc := "()I" } : Jvm.MethodName) prog_1_method_34_code (1 : Nat) (Option.some Jvm.ClassFile.FieldType.int)) ∈ zAll := zt2 (List.mem_of_getElem? (i := 194) (by decide +kernel)) rfl
theorem wm_L_234 : (Jvm.Cond.methodLink "ToneGraphLaw" (234 : Nat) ({ cls := "ToneGraph", name := "greatest", desc := "()I" } : Jvm.MethodName)) ∈ zAll := zt2 (List.mem_of_getElem? (i := 195) (by decide +kernel)) rfl
theorem wi_X6_greatest : (Jvm.Cond.instanceMethod ({ cls := "ToneGraph", name := "greatest", desc := "()I" } : Jvm.MethodName)) ∈ zAll := zt2 (List.mem_of_getElem? (i := 196) (by decide +kernel)) rfl
theorem wv_X6_greatest : (Jvm.Cond.selects "ToneGraph" ({ cls := "ToneGraph", name := "greatest", desc := "()I" } : Jvm.MethodName) ({ cls := "ToneGraph", name := "greatest", desc := "()I" } : Jvm.MethodName)) ∈ zAll := zt2 (List.mem_of_getElem? (i := 197) (by decide +kernel)) rfl
theorem wcode_X6_greatest : (Jvm.Cond.code ({ cls := "ToneGraph", name := "greatest", desc := "()I" } : Jvm.MethodName) prog_1_method_35_code (1 : Nat) (Option.some Jvm.ClassFile.FieldType.int)) ∈ zAll := zt2 (List.mem_of_getElem? (i := 198) (by decide +kernel)) rfl
theorem wm_L_238 : (Jvm.Cond.methodLink "ToneGraphLaw" (238 : Nat) ({ cls := "ToneGraph", name := "energy", desc := "()J" } : Jvm.MethodName)) ∈ zAll := zt2 (List.mem_of_getElem? (i := 199) (by decide +kernel)) rfl
theorem wi_X6_energy : (Jvm.Cond.instanceMethod ({ cls := "ToneGraph", name := "energy", desc := "()J" } : Jvm.MethodName)) ∈ zAll := zt2 (List.mem_of_getElem? (i := 200) (by decide +kernel)) rfl
theorem wv_X6_energy : (Jvm.Cond.selects "ToneGraph" ({ cls := "ToneGraph", name := "energy", desc := "()J" } : Jvm.MethodName) ({ cls := "ToneGraph", name := "energy", desc := "()J" } : Jvm.MethodName)) ∈ zAll := zt2 (List.mem_of_getElem? (i := 201) (by decide +kernel)) rfl
theorem wcode_X6_energy : (Jvm.Cond.code ({ cls := "ToneGraph", name := "energy", desc := "()J" } : Jvm.MethodName) prog_1_method_36_code (1 : Nat) (Option.some Jvm.ClassFile.FieldType.long)) ∈ zAll := zt2 (List.mem_of_getElem? (i := 202) (by decide +kernel)) rfl
theorem wm_L_250 : (Jvm.Cond.methodLink "ToneGraphLaw" (250 : Nat) ({ cls := "ToneGraph", name := "isConsistent", desc := "()Z" } : Jvm.MethodName)) ∈ zAll := zt2 (List.mem_of_getElem? (i := 203) (by decide +kernel)) rfl
theorem wi_X6_isConsistent : (Jvm.Cond.instanceMethod ({ cls := "ToneGraph", name := "isConsistent", desc := "()Z" } : Jvm.MethodName)) ∈ zAll := zt2 (List.mem_of_getElem? (i := 204) (by decide +kernel)) rfl
theorem wv_X6_isConsistent : (Jvm.Cond.selects "ToneGraph" ({ cls := "ToneGraph", name := "isConsistent", desc := "()Z" } : Jvm.MethodName) ({ cls := "ToneGraph", name := "isConsistent", desc := "()Z" } : Jvm.MethodName)) ∈ zAll := zt2 (List.mem_of_getElem? (i := 205) (by decide +kernel)) rfl
theorem wcode_X6_isConsistent : (Jvm.Cond.code ({ cls := "ToneGraph", name := "isConsistent", desc := "()Z" } : Jvm.MethodName) prog_1_method_39_code (2 : Nat) (Option.some Jvm.ClassFile.FieldType.boolean)) ∈ zAll := zt2 (List.mem_of_getElem? (i := 206) (by decide +kernel)) rfl
theorem wm_X6_252 : (Jvm.Cond.methodLink "ToneGraph" (252 : Nat) ({ cls := "ToneGraph$Board", name := "isInOrder", desc := "()Z" } : Jvm.MethodName)) ∈ zAll := zt2 (List.mem_of_getElem? (i := 207) (by decide +kernel)) rfl
theorem wi_X0_isInOrder : (Jvm.Cond.instanceMethod ({ cls := "ToneGraph$Board", name := "isInOrder", desc := "()Z" } : Jvm.MethodName)) ∈ zAll := zt2 (List.mem_of_getElem? (i := 208) (by decide +kernel)) rfl
theorem wv_X0_isInOrder : (Jvm.Cond.selects "ToneGraph$Board" ({ cls := "ToneGraph$Board", name := "isInOrder", desc := "()Z" } : Jvm.MethodName) ({ cls := "ToneGraph$Board", name := "isInOrder", desc := "()Z" } : Jvm.MethodName)) ∈ zAll := zt2 (List.mem_of_getElem? (i := 209) (by decide +kernel)) rfl
theorem wcode_X0_isInOrder : (Jvm.Cond.code ({ cls := "ToneGraph$Board", name := "isInOrder", desc := "()Z" } : Jvm.MethodName) prog_2_method_12_code (4 : Nat) (Option.some Jvm.ClassFile.FieldType.boolean)) ∈ zAll := zt2 (List.mem_of_getElem? (i := 210) (by decide +kernel)) rfl
theorem wm_X0_58 : (Jvm.Cond.methodLink "ToneGraph$Board" (58 : Nat) ({ cls := "ToneGraph$Board", name := "hasWireFrom", desc := "(II)Z" } : Jvm.MethodName)) ∈ zAll := zt2 (List.mem_of_getElem? (i := 211) (by decide +kernel)) rfl
theorem wi_X0_hasWireFrom : (Jvm.Cond.instanceMethod ({ cls := "ToneGraph$Board", name := "hasWireFrom", desc := "(II)Z" } : Jvm.MethodName)) ∈ zAll := zt2 (List.mem_of_getElem? (i := 212) (by decide +kernel)) rfl
theorem wv_X0_hasWireFrom : (Jvm.Cond.selects "ToneGraph$Board" ({ cls := "ToneGraph$Board", name := "hasWireFrom", desc := "(II)Z" } : Jvm.MethodName) ({ cls := "ToneGraph$Board", name := "hasWireFrom", desc := "(II)Z" } : Jvm.MethodName)) ∈ zAll := zt2 (List.mem_of_getElem? (i := 213) (by decide +kernel)) rfl
theorem wcode_X0_hasWireFrom : (Jvm.Cond.code ({ cls := "ToneGraph$Board", name := "hasWireFrom", desc := "(II)Z" } : Jvm.MethodName) prog_2_method_7_code (4 : Nat) (Option.some Jvm.ClassFile.FieldType.boolean)) ∈ zAll := zt2 (List.mem_of_getElem? (i := 214) (by decide +kernel)) rfl
theorem wm_X0_62 : (Jvm.Cond.methodLink "ToneGraph$Board" (62 : Nat) ({ cls := "ToneGraph$Board", name := "isIn", desc := "(II)Z" } : Jvm.MethodName)) ∈ zAll := zt2 (List.mem_of_getElem? (i := 215) (by decide +kernel)) rfl
theorem ws_X0_isIn : (Jvm.Cond.static ({ cls := "ToneGraph$Board", name := "isIn", desc := "(II)Z" } : Jvm.MethodName)) ∈ zAll := zt2 (List.mem_of_getElem? (i := 216) (by decide +kernel)) rfl
theorem wcode_X0_isIn : (Jvm.Cond.code ({ cls := "ToneGraph$Board", name := "isIn", desc := "(II)Z" } : Jvm.MethodName) prog_2_method_10_code (2 : Nat) (Option.some Jvm.ClassFile.FieldType.boolean)) ∈ zAll := zt2 (List.mem_of_getElem? (i := 217) (by decide +kernel)) rfl
theorem wm_X6_256 : (Jvm.Cond.methodLink "ToneGraph" (256 : Nat) ({ cls := "ToneGraph$Choir", name := "hasLevelsInRange", desc := "()Z" } : Jvm.MethodName)) ∈ zAll := zt2 (List.mem_of_getElem? (i := 218) (by decide +kernel)) rfl
theorem wi_X1_hasLevelsInRange : (Jvm.Cond.instanceMethod ({ cls := "ToneGraph$Choir", name := "hasLevelsInRange", desc := "()Z" } : Jvm.MethodName)) ∈ zAll := zt2 (List.mem_of_getElem? (i := 219) (by decide +kernel)) rfl
theorem wv_X1_hasLevelsInRange : (Jvm.Cond.selects "ToneGraph$Choir" ({ cls := "ToneGraph$Choir", name := "hasLevelsInRange", desc := "()Z" } : Jvm.MethodName) ({ cls := "ToneGraph$Choir", name := "hasLevelsInRange", desc := "()Z" } : Jvm.MethodName)) ∈ zAll := zt2 (List.mem_of_getElem? (i := 220) (by decide +kernel)) rfl
theorem wcode_X1_hasLevelsInRange : (Jvm.Cond.code ({ cls := "ToneGraph$Choir", name := "hasLevelsInRange", desc := "()Z" } : Jvm.MethodName) prog_3_method_10_code (3 : Nat) (Option.some Jvm.ClassFile.FieldType.boolean)) ∈ zAll := zt2 (List.mem_of_getElem? (i := 221) (by decide +kernel)) rfl
theorem wm_X1_62 : (Jvm.Cond.methodLink "ToneGraph$Choir" (62 : Nat) ({ cls := "ToneGraph$Voice", name := "level", desc := "()I" } : Jvm.MethodName)) ∈ zAll := zt2 (List.mem_of_getElem? (i := 222) (by decide +kernel)) rfl
theorem wm_X6_226 : (Jvm.Cond.methodLink "ToneGraph" (226 : Nat) ({ cls := "ToneGraph", name := "lookAhead", desc := "(II[I)V" } : Jvm.MethodName)) ∈ zAll := zt2 (List.mem_of_getElem? (i := 223) (by decide +kernel)) rfl
theorem wi_X6_lookAhead : (Jvm.Cond.instanceMethod ({ cls := "ToneGraph", name := "lookAhead", desc := "(II[I)V" } : Jvm.MethodName)) ∈ zAll := zt2 (List.mem_of_getElem? (i := 225) (by decide +kernel)) rfl
theorem wcode_X6_lookAhead : (Jvm.Cond.code ({ cls := "ToneGraph", name := "lookAhead", desc := "(II[I)V" } : Jvm.MethodName) prog_1_method_41_code (4 : Nat) (Option.none : Option Jvm.ClassFile.FieldType)) ∈ zAll := zt2 (List.mem_of_getElem? (i := 226) (by decide +kernel)) rfl
theorem wm_X6_265 : (Jvm.Cond.methodLink "ToneGraph" (265 : Nat) ({ cls := "ToneGraph$Track", name := "copyFrom", desc := "(LToneGraph$Track;)V" } : Jvm.MethodName)) ∈ zAll := zt2 (List.mem_of_getElem? (i := 227) (by decide +kernel)) rfl
theorem wi_X4_copyFrom : (Jvm.Cond.instanceMethod ({ cls := "ToneGraph$Track", name := "copyFrom", desc := "(LToneGraph$Track;)V" } : Jvm.MethodName)) ∈ zAll := zt2 (List.mem_of_getElem? (i := 228) (by decide +kernel)) rfl
theorem wv_X4_copyFrom : (Jvm.Cond.selects "ToneGraph$Track" ({ cls := "ToneGraph$Track", name := "copyFrom", desc := "(LToneGraph$Track;)V" } : Jvm.MethodName) ({ cls := "ToneGraph$Track", name := "copyFrom", desc := "(LToneGraph$Track;)V" } : Jvm.MethodName)) ∈ zAll := zt2 (List.mem_of_getElem? (i := 229) (by decide +kernel)) rfl
theorem wcode_X4_copyFrom : (Jvm.Cond.code ({ cls := "ToneGraph$Track", name := "copyFrom", desc := "(LToneGraph$Track;)V" } : Jvm.MethodName) prog_6_method_2_code (3 : Nat) (Option.none : Option Jvm.ClassFile.FieldType)) ∈ zAll := zt2 (List.mem_of_getElem? (i := 230) (by decide +kernel)) rfl
theorem wm_X4_40 : (Jvm.Cond.methodLink "ToneGraph$Track" (40 : Nat) ({ cls := "ToneGraph$Choir", name := "copyFrom", desc := "(LToneGraph$Choir;)V" } : Jvm.MethodName)) ∈ zAll := zt2 (List.mem_of_getElem? (i := 231) (by decide +kernel)) rfl
theorem wi_X1_copyFrom : (Jvm.Cond.instanceMethod ({ cls := "ToneGraph$Choir", name := "copyFrom", desc := "(LToneGraph$Choir;)V" } : Jvm.MethodName)) ∈ zAll := zt2 (List.mem_of_getElem? (i := 232) (by decide +kernel)) rfl
theorem wv_X1_copyFrom : (Jvm.Cond.selects "ToneGraph$Choir" ({ cls := "ToneGraph$Choir", name := "copyFrom", desc := "(LToneGraph$Choir;)V" } : Jvm.MethodName) ({ cls := "ToneGraph$Choir", name := "copyFrom", desc := "(LToneGraph$Choir;)V" } : Jvm.MethodName)) ∈ zAll := zt2 (List.mem_of_getElem? (i := 233) (by decide +kernel)) rfl
theorem wcode_X1_copyFrom : (Jvm.Cond.code ({ cls := "ToneGraph$Choir", name := "copyFrom", desc := "(LToneGraph$Choir;)V" } : Jvm.MethodName) prog_3_method_2_code (3 : Nat) (Option.none : Option Jvm.ClassFile.FieldType)) ∈ zAll := zt2 (List.mem_of_getElem? (i := 234) (by decide +kernel)) rfl
theorem wm_X1_18 : (Jvm.Cond.methodLink "ToneGraph$Choir" (18 : Nat) ({ cls := "ToneGraph$Voice", name := "copyFrom", desc := "(LToneGraph$Voice;)V" } : Jvm.MethodName)) ∈ zAll := zt2 (List.mem_of_getElem? (i := 235) (by decide +kernel)) rfl
theorem wi_X5_copyFrom : (Jvm.Cond.instanceMethod ({ cls := "ToneGraph$Voice", name := "copyFrom", desc := "(LToneGraph$Voice;)V" } : Jvm.MethodName)) ∈ zAll := zt2 (List.mem_of_getElem? (i := 236) (by decide +kernel)) rfl
theorem wv_X5_copyFrom : (Jvm.Cond.selects "ToneGraph$Voice" ({ cls := "ToneGraph$Voice", name := "copyFrom", desc := "(LToneGraph$Voice;)V" } : Jvm.MethodName) ({ cls := "ToneGraph$Voice", name := "copyFrom", desc := "(LToneGraph$Voice;)V" } : Jvm.MethodName)) ∈ zAll := zt2 (List.mem_of_getElem? (i := 237) (by decide +kernel)) rfl
theorem wcode_X5_copyFrom : (Jvm.Cond.code ({ cls := "ToneGraph$Voice", name := "copyFrom", desc := "(LToneGraph$Voice;)V" } : Jvm.MethodName) prog_7_method_11_code (2 : Nat) (Option.none : Option Jvm.ClassFile.FieldType)) ∈ zAll := zt2 (List.mem_of_getElem? (i := 238) (by decide +kernel)) rfl
theorem wm_L_117 : (Jvm.Cond.methodLink "ToneGraphLaw" (117 : Nat) ({ cls := "ToneGraphLaw", name := "addGain", desc := "(LToneGraph;I[J)I" } : Jvm.MethodName)) ∈ zAll := zt2 (List.mem_of_getElem? (i := 239) (by decide +kernel)) rfl
theorem zt3 {w : Cond} (h : w ∈ tables_1_3) (g : goodWord w = true) : w ∈ zAll := List.mem_filter.mpr ⟨List.mem_append_right _ (List.mem_append_right _ (List.mem_append_right _ (List.mem_append_left _ h))), g⟩
theorem ws_L_addGain : (Jvm.Cond.static ({ cls := "ToneGraphLaw", name := "addGain", desc := "(LToneGraph;I[J)I" } : Jvm.MethodName)) ∈ zAll := zt3 (List.mem_of_getElem? (i := 0) (by decide +kernel)) rfl
theorem wcode_L_addGain : (Jvm.Cond.codeWith ({ cls := "ToneGraphLaw", name := "addGain", desc := "(LToneGraph;I[J)I" } : Jvm.MethodName) method_3_code (4 : Nat) (Option.some Jvm.ClassFile.FieldType.int) [((0 : Nat), (9 : Nat), (12 : Nat), (13 : Nat)), ((0 : Nat), (9 : Nat), (15 : Nat), (15 : Nat))]) ∈ zAll := zt3 (List.mem_of_getElem? (i := 1) (by decide +kernel)) rfl
theorem wc_L_13 : (Jvm.Cond.classLink "ToneGraphLaw" (13 : Nat) "java/lang/IllegalArgumentException") ∈ zAll := zt3 (List.mem_of_getElem? (i := 2) (by decide +kernel)) rfl
theorem wc_L_15 : (Jvm.Cond.classLink "ToneGraphLaw" (15 : Nat) "java/lang/IllegalStateException") ∈ zAll := zt3 (List.mem_of_getElem? (i := 3) (by decide +kernel)) rfl
theorem wm_L_7 : (Jvm.Cond.methodLink "ToneGraphLaw" (7 : Nat) ({ cls := "ToneGraph", name := "addGain", desc := "(I)I" } : Jvm.MethodName)) ∈ zAll := zt3 (List.mem_of_getElem? (i := 4) (by decide +kernel)) rfl
theorem wi_X6_addGain : (Jvm.Cond.instanceMethod ({ cls := "ToneGraph", name := "addGain", desc := "(I)I" } : Jvm.MethodName)) ∈ zAll := zt3 (List.mem_of_getElem? (i := 5) (by decide +kernel)) rfl
theorem wv_X6_addGain : (Jvm.Cond.selects "ToneGraph" ({ cls := "ToneGraph", name := "addGain", desc := "(I)I" } : Jvm.MethodName) ({ cls := "ToneGraph", name := "addGain", desc := "(I)I" } : Jvm.MethodName)) ∈ zAll := zt3 (List.mem_of_getElem? (i := 6) (by decide +kernel)) rfl
theorem wcode_X6_addGain : (Jvm.Cond.code ({ cls := "ToneGraph", name := "addGain", desc := "(I)I" } : Jvm.MethodName) prog_1_method_2_code (3 : Nat) (Option.some Jvm.ClassFile.FieldType.int)) ∈ zAll := zt3 (List.mem_of_getElem? (i := 7) (by decide +kernel)) rfl
theorem wm_X6_55 : (Jvm.Cond.methodLink "ToneGraph" (55 : Nat) ({ cls := "ToneGraph", name := "refuseOutside", desc := "(III)V" } : Jvm.MethodName)) ∈ zAll := zt3 (List.mem_of_getElem? (i := 8) (by decide +kernel)) rfl
theorem ws_X6_refuseOutside : (Jvm.Cond.static ({ cls := "ToneGraph", name := "refuseOutside", desc := "(III)V" } : Jvm.MethodName)) ∈ zAll := zt3 (List.mem_of_getElem? (i := 9) (by decide +kernel)) rfl
theorem wcode_X6_refuseOutside : (Jvm.Cond.code ({ cls := "ToneGraph", name := "refuseOutside", desc := "(III)V" } : Jvm.MethodName) prog_1_method_42_code (3 : Nat) (Option.none : Option Jvm.ClassFile.FieldType)) ∈ zAll := zt3 (List.mem_of_getElem? (i := 10) (by decide +kernel)) rfl
theorem wc_X6_91 : (Jvm.Cond.classLink "ToneGraph" (91 : Nat) "java/lang/IllegalArgumentException") ∈ zAll := zt3 (List.mem_of_getElem? (i := 11) (by decide +kernel)) rfl
theorem wt_IllegalArgumentException : (Jvm.Cond.instantiable "java/lang/IllegalArgumentException" (6 : Nat)) ∈ zAll := zt3 (List.mem_of_getElem? (i := 12) (by decide +kernel)) rfl
theorem wf_Throwable_198 : (Jvm.Cond.fieldLink "java/lang/Throwable" (198 : Nat) "java/lang/Throwable" "backtrace" "Ljava/lang/Object;") ∈ zAll := zt3 (List.mem_of_getElem? (i := 32) (by decide +kernel)) rfl
theorem wi_Throwable_init : (Jvm.Cond.instanceMethod ({ cls := "java/lang/Throwable", name := "<init>", desc := "()V" } : Jvm.MethodName)) ∈ zAll := zt3 (List.mem_of_getElem? (i := 34) (by decide +kernel)) rfl
theorem wcode_Throwable_init : (Jvm.Cond.code ({ cls := "java/lang/Throwable", name := "<init>", desc := "()V" } : Jvm.MethodName) prog_21_method_1_code (1 : Nat) (Option.none : Option Jvm.ClassFile.FieldType)) ∈ zAll := zt3 (List.mem_of_getElem? (i := 35) (by decide +kernel)) rfl
theorem wm_Throwable_1 : (Jvm.Cond.methodLink "java/lang/Throwable" (1 : Nat) ({ cls := "java/lang/Object", name := "<init>", desc := "()V" } : Jvm.MethodName)) ∈ zAll := zt3 (List.mem_of_getElem? (i := 36) (by decide +kernel)) rfl
theorem wf_Throwable_13 : (Jvm.Cond.fieldLink "java/lang/Throwable" (13 : Nat) "java/lang/Throwable" "UNASSIGNED_STACK" "[Ljava/lang/StackTraceElement;") ∈ zAll := zt3 (List.mem_of_getElem? (i := 37) (by decide +kernel)) rfl
theorem wf_Throwable_20 : (Jvm.Cond.fieldLink "java/lang/Throwable" (20 : Nat) "java/lang/Throwable" "SUPPRESSED_SENTINEL" "Ljava/util/List;") ∈ zAll := zt3 (List.mem_of_getElem? (i := 39) (by decide +kernel)) rfl
theorem wm_Throwable_27 : (Jvm.Cond.methodLink "java/lang/Throwable" (27 : Nat) ({ cls := "java/lang/Throwable", name := "fillInStackTrace", desc := "()Ljava/lang/Throwable;" } : Jvm.MethodName)) ∈ zAll := zt3 (List.mem_of_getElem? (i := 41) (by decide +kernel)) rfl
theorem wi_Throwable_fillInStackTrace : (Jvm.Cond.instanceMethod ({ cls := "java/lang/Throwable", name := "fillInStackTrace", desc := "()Ljava/lang/Throwable;" } : Jvm.MethodName)) ∈ zAll := zt3 (List.mem_of_getElem? (i := 42) (by decide +kernel)) rfl
theorem wm_Throwable_202 : (Jvm.Cond.methodLink "java/lang/Throwable" (202 : Nat) ({ cls := "java/lang/Throwable", name := "fillInStackTrace", desc := "(I)Ljava/lang/Throwable;" } : Jvm.MethodName)) ∈ zAll := zt3 (List.mem_of_getElem? (i := 51) (by decide +kernel)) rfl
theorem wi_Throwable_fillInStackTrace_b : (Jvm.Cond.instanceMethod ({ cls := "java/lang/Throwable", name := "fillInStackTrace", desc := "(I)Ljava/lang/Throwable;" } : Jvm.MethodName)) ∈ zAll := zt3 (List.mem_of_getElem? (i := 53) (by decide +kernel)) rfl
theorem wt_Throwable : (Jvm.Cond.instantiable "java/lang/Throwable" (6 : Nat)) ∈ zAll := zt3 (List.mem_of_getElem? (i := 54) (by decide +kernel)) rfl
theorem wnat_Throwable_fillInStackTrace : (Jvm.Cond.native ({ cls := "java/lang/Throwable", name := "fillInStackTrace", desc := "(I)Ljava/lang/Throwable;" } : Jvm.MethodName)) ∈ zAll := zt3 (List.mem_of_getElem? (i := 55) (by decide +kernel)) rfl
theorem wm_X6_95 : (Jvm.Cond.methodLink "ToneGraph" (95 : Nat) ({ cls := "java/lang/IllegalArgumentException", name := "<init>", desc := "(Ljava/lang/String;)V" } : Jvm.MethodName)) ∈ zAll := zt3 (List.mem_of_getElem? (i := 57) (by decide +kernel)) rfl
theorem wi_IllegalArgumentException_init : (Jvm.Cond.instanceMethod ({ cls := "java/lang/IllegalArgumentException", name := "<init>", desc := "(Ljava/lang/String;)V" } : Jvm.MethodName)) ∈ zAll := zt3 (List.mem_of_getElem? (i := 58) (by decide +kernel)) rfl
theorem wcode_IllegalArgumentException_init : (Jvm.Cond.code ({ cls := "java/lang/IllegalArgumentException", name := "<init>", desc := "(Ljava/lang/String;)V" } : Jvm.MethodName) prog_14_method_2_code (2 : Nat) (Option.none : Option Jvm.ClassFile.FieldType)) ∈ zAll := zt3 (List.mem_of_getElem? (i := 59) (by decide +kernel)) rfl
theorem wm_IllegalArgumentException_7 : (Jvm.Cond.methodLink "java/lang/IllegalArgumentException" (7 : Nat) ({ cls := "java/lang/RuntimeException", name := "<init>", desc := "(Ljava/lang/String;)V" } : Jvm.MethodName)) ∈ zAll := zt3 (List.mem_of_getElem? (i := 60) (by decide +kernel)) rfl
theorem wi_RuntimeException_init : (Jvm.Cond.instanceMethod ({ cls := "java/lang/RuntimeException", name := "<init>", desc := "(Ljava/lang/String;)V" } : Jvm.MethodName)) ∈ zAll := zt3 (List.mem_of_getElem? (i := 61) (by decide +kernel)) rfl
theorem wcode_RuntimeException_init : (Jvm.Cond.code ({ cls := "java/lang/RuntimeException", name := "<init>", desc := "(Ljava/lang/String;)V" } : Jvm.MethodName) prog_18_method_2_code (2 : Nat) (Option.none : Option Jvm.ClassFile.FieldType)) ∈ zAll := zt3 (List.mem_of_getElem? (i := 62) (by decide +kernel)) rfl
theorem wm_RuntimeException_7 : (Jvm.Cond.methodLink "java/lang/RuntimeException" (7 : Nat) ({ cls := "java/lang/Exception", name := "<init>", desc := "(Ljava/lang/String;)V" } : Jvm.MethodName)) ∈ zAll := zt3 (List.mem_of_getElem? (i := 63) (by decide +kernel)) rfl
theorem wi_Exception_init : (Jvm.Cond.instanceMethod ({ cls := "java/lang/Exception", name := "<init>", desc := "(Ljava/lang/String;)V" } : Jvm.MethodName)) ∈ zAll := zt3 (List.mem_of_getElem? (i := 64) (by decide +kernel)) rfl
theorem wcode_Exception_init : (Jvm.Cond.code ({ cls := "java/lang/Exception", name := "<init>", desc := "(Ljava/lang/String;)V" } : Jvm.MethodName) prog_13_method_2_code (2 : Nat) (Option.none : Option Jvm.ClassFile.FieldType)) ∈ zAll := zt3 (List.mem_of_getElem? (i := 65) (by decide +kernel)) rfl
theorem wm_Exception_7 : (Jvm.Cond.methodLink "java/lang/Exception" (7 : Nat) ({ cls := "java/lang/Throwable", name := "<init>", desc := "(Ljava/lang/String;)V" } : Jvm.MethodName)) ∈ zAll := zt3 (List.mem_of_getElem? (i := 66) (by decide +kernel)) rfl
theorem wi_Throwable_init_b : (Jvm.Cond.instanceMethod ({ cls := "java/lang/Throwable", name := "<init>", desc := "(Ljava/lang/String;)V" } : Jvm.MethodName)) ∈ zAll := zt3 (List.mem_of_getElem? (i := 67) (by decide +kernel)) rfl
theorem wcode_Throwable_init_b : (Jvm.Cond.code ({ cls := "java/lang/Throwable", name := "<init>", desc := "(Ljava/lang/String;)V" } : Jvm.MethodName) prog_21_method_2_code (2 : Nat) (Option.none : Option Jvm.ClassFile.FieldType)) ∈ zAll := zt3 (List.mem_of_getElem? (i := 68) (by decide +kernel)) rfl
theorem wf_Throwable_198_b : (Jvm.Cond.fieldLink "java/lang/Throwable" (198 : Nat) "java/lang/Throwable" "backtrace" "Ljava/lang/Object;") ∈ zAll := zt3 (List.mem_of_getElem? (i := 69) (by decide +kernel)) rfl
theorem wf_Throwable_31 : (Jvm.Cond.fieldLink "java/lang/Throwable" (31 : Nat) "java/lang/Throwable" "detailMessage" "Ljava/lang/String;") ∈ zAll := zt3 (List.mem_of_getElem? (i := 70) (by decide +kernel)) rfl
theorem wf_Throwable_7 : (Jvm.Cond.fieldLink "java/lang/Throwable" (7 : Nat) "java/lang/Throwable" "cause" "Ljava/lang/Throwable;") ∈ zAll := zt3 (List.mem_of_getElem? (i := 71) (by decide +kernel)) rfl
theorem wf_Throwable_17 : (Jvm.Cond.fieldLink "java/lang/Throwable" (17 : Nat) "java/lang/Throwable" "stackTrace" "[Ljava/lang/StackTraceElement;") ∈ zAll := zt3 (List.mem_of_getElem? (i := 72) (by decide +kernel)) rfl
theorem wf_Throwable_24 : (Jvm.Cond.fieldLink "java/lang/Throwable" (24 : Nat) "java/lang/Throwable" "suppressedExceptions" "Ljava/util/List;") ∈ zAll := zt3 (List.mem_of_getElem? (i := 73) (by decide +kernel)) rfl
theorem wa_byte : (Jvm.Cond.arrayClass Jvm.ClassFile.FieldType.byte) ∈ zAll := zt3 (List.mem_of_getElem? (i := 82) (by decide +kernel)) rfl
theorem wm_X6_59 : (Jvm.Cond.methodLink "ToneGraph" (59 : Nat) ({ cls := "ToneGraph", name := "refuseFullBoard", desc := "()V" } : Jvm.MethodName)) ∈ zAll := zt3 (List.mem_of_getElem? (i := 83) (by decide +kernel)) rfl
theorem wi_X6_refuseFullBoard : (Jvm.Cond.instanceMethod ({ cls := "ToneGraph", name := "refuseFullBoard", desc := "()V" } : Jvm.MethodName)) ∈ zAll := zt3 (List.mem_of_getElem? (i := 85) (by decide +kernel)) rfl
theorem wcode_X6_refuseFullBoard : (Jvm.Cond.code ({ cls := "ToneGraph", name := "refuseFullBoard", desc := "()V" } : Jvm.MethodName) prog_1_method_45_code (1 : Nat) (Option.none : Option Jvm.ClassFile.FieldType)) ∈ zAll := zt3 (List.mem_of_getElem? (i := 86) (by decide +kernel)) rfl
theorem wc_X6_105 : (Jvm.Cond.classLink "ToneGraph" (105 : Nat) "java/lang/IllegalStateException") ∈ zAll := zt3 (List.mem_of_getElem? (i := 87) (by decide +kernel)) rfl
theorem wt_IllegalStateException : (Jvm.Cond.instantiable "java/lang/IllegalStateException" (6 : Nat)) ∈ zAll := zt3 (List.mem_of_getElem? (i := 88) (by decide +kernel)) rfl
theorem wm_X6_109 : (Jvm.Cond.methodLink "ToneGraph" (109 : Nat) ({ cls := "java/lang/IllegalStateException", name := "<init>", desc := "(Ljava/lang/String;)V" } : Jvm.MethodName)) ∈ zAll := zt3 (List.mem_of_getElem? (i := 97) (by decide +kernel)) rfl
theorem wi_IllegalStateException_init : (Jvm.Cond.instanceMethod ({ cls := "java/lang/IllegalStateException", name := "<init>", desc := "(Ljava/lang/String;)V" } : Jvm.MethodName)) ∈ zAll := zt3 (List.mem_of_getElem? (i := 98) (by decide +kernel)) rfl
theorem wcode_IllegalStateException_init : (Jvm.Cond.code ({ cls := "java/lang/IllegalStateException", name := "<init>", desc := "(Ljava/lang/String;)V" } : Jvm.MethodName) prog_15_method_2_code (2 : Nat) (Option.none : Option Jvm.ClassFile.FieldType)) ∈ zAll := zt3 (List.mem_of_getElem? (i := 99) (by decide +kernel)) rfl
theorem wm_IllegalStateException_7 : (Jvm.Cond.methodLink "java/lang/IllegalStateException" (7 : Nat) ({ cls := "java/lang/RuntimeException", name := "<init>", desc := "(Ljava/lang/String;)V" } : Jvm.MethodName)) ∈ zAll := zt3 (List.mem_of_getElem? (i := 100) (by decide +kernel)) rfl
theorem wm_X6_62 : (Jvm.Cond.methodLink "ToneGraph" (62 : Nat) ({ cls := "ToneGraph$Board", name := "add", desc := "(C)I" } : Jvm.MethodName)) ∈ zAll := zt3 (List.mem_of_getElem? (i := 103) (by decide +kernel)) rfl
theorem wi_X0_add : (Jvm.Cond.instanceMethod ({ cls := "ToneGraph$Board", name := "add", desc := "(C)I" } : Jvm.MethodName)) ∈ zAll := zt3 (List.mem_of_getElem? (i := 104) (by decide +kernel)) rfl
theorem wv_X0_add : (Jvm.Cond.selects "ToneGraph$Board" ({ cls := "ToneGraph$Board", name := "add", desc := "(C)I" } : Jvm.MethodName) ({ cls := "ToneGraph$Board", name := "add", desc := "(C)I" } : Jvm.MethodName)) ∈ zAll := zt3 (List.mem_of_getElem? (i := 105) (by decide +kernel)) rfl
theorem wcode_X0_add : (Jvm.Cond.code ({ cls := "ToneGraph$Board", name := "add", desc := "(C)I" } : Jvm.MethodName) prog_2_method_2_code (3 : Nat) (Option.some Jvm.ClassFile.FieldType.int)) ∈ zAll := zt3 (List.mem_of_getElem? (i := 106) (by decide +kernel)) rfl
theorem wm_X0_55 : (Jvm.Cond.methodLink "ToneGraph$Board" (55 : Nat) ({ cls := "ToneGraph$Board", name := "arrange", desc := "()V" } : Jvm.MethodName)) ∈ zAll := zt3 (List.mem_of_getElem? (i := 107) (by decide +kernel)) rfl
theorem wi_X0_arrange : (Jvm.Cond.instanceMethod ({ cls := "ToneGraph$Board", name := "arrange", desc := "()V" } : Jvm.MethodName)) ∈ zAll := zt3 (List.mem_of_getElem? (i := 108) (by decide +kernel)) rfl
theorem wv_X0_arrange : (Jvm.Cond.selects "ToneGraph$Board" ({ cls := "ToneGraph$Board", name := "arrange", desc := "()V" } : Jvm.MethodName) ({ cls := "ToneGraph$Board", name := "arrange", desc := "()V" } : Jvm.MethodName)) ∈ zAll := zt3 (List.mem_of_getElem? (i := 109) (by decide +kernel)) rfl
theorem wcode_X0_arrange : (Jvm.Cond.code ({ cls := "ToneGraph$Board", name := "arrange", desc := "()V" } : Jvm.MethodName) prog_2_method_8_code (4 : Nat) (Option.none : Option Jvm.ClassFile.FieldType)) ∈ zAll := zt3 (List.mem_of_getElem? (i := 110) (by decide +kernel)) rfl
theorem wm_X0_65 : (Jvm.Cond.methodLink "ToneGraph$Board" (65 : Nat) ({ cls := "ToneGraph$Board", name := "lowestReady", desc := "(I)I" } : Jvm.MethodName)) ∈ zAll := zt3 (List.mem_of_getElem? (i := 111) (by decide +kernel)) rfl
theorem wi_X0_lowestReady : (Jvm.Cond.instanceMethod ({ cls := "ToneGraph$Board", name := "lowestReady", desc := "(I)I" } : Jvm.MethodName)) ∈ zAll := zt3 (List.mem_of_getElem? (i := 112) (by decide +kernel)) rfl
theorem wv_X0_lowestReady : (Jvm.Cond.selects "ToneGraph$Board" ({ cls := "ToneGraph$Board", name := "lowestReady", desc := "(I)I" } : Jvm.MethodName) ({ cls := "ToneGraph$Board", name := "lowestReady", desc := "(I)I" } : Jvm.MethodName)) ∈ zAll := zt3 (List.mem_of_getElem? (i := 113) (by decide +kernel)) rfl
theorem wcode_X0_lowestReady : (Jvm.Cond.code ({ cls := "ToneGraph$Board", name := "lowestReady", desc := "(I)I" } : Jvm.MethodName) prog_2_method_9_code (3 : Nat) (Option.some Jvm.ClassFile.FieldType.int)) ∈ zAll := zt3 (List.mem_of_getElem? (i := 114) (by decide +kernel)) rfl
theorem wm_L_127 : (Jvm.Cond.methodLink "ToneGraphLaw" (127 : Nat) ({ cls := "ToneGraphLaw", name := "addDelay", desc := "(LToneGraph;II[J)I" } : Jvm.MethodName)) ∈ zAll := zt3 (List.mem_of_getElem? (i := 115) (by decide +kernel)) rfl
theorem ws_L_addDelay : (Jvm.Cond.static ({ cls := "ToneGraphLaw", name := "addDelay", desc := "(LToneGraph;II[J)I" } : Jvm.MethodName)) ∈ zAll := zt3 (List.mem_of_getElem? (i := 116) (by decide +kernel)) rfl
theorem wcode_L_addDelay : (Jvm.Cond.codeWith ({ cls := "ToneGraphLaw", name := "addDelay", desc := "(LToneGraph;II[J)I" } : Jvm.MethodName) method_4_code (5 : Nat) (Option.some Jvm.ClassFile.FieldType.int) [((0 : Nat), (10 : Nat), (13 : Nat), (13 : Nat)), ((0 : Nat), (10 : Nat), (17 : Nat), (15 : Nat))]) ∈ zAll := zt3 (List.mem_of_getElem? (i := 117) (by decide +kernel)) rfl
theorem wm_L_17 : (Jvm.Cond.methodLink "ToneGraphLaw" (17 : Nat) ({ cls := "ToneGraph", name := "addDelay", desc := "(II)I" } : Jvm.MethodName)) ∈ zAll := zt3 (List.mem_of_getElem? (i := 118) (by decide +kernel)) rfl
theorem wi_X6_addDelay : (Jvm.Cond.instanceMethod ({ cls := "ToneGraph", name := "addDelay", desc := "(II)I" } : Jvm.MethodName)) ∈ zAll := zt3 (List.mem_of_getElem? (i := 119) (by decide +kernel)) rfl
theorem wv_X6_addDelay : (Jvm.Cond.selects "ToneGraph" ({ cls := "ToneGraph", name := "addDelay", desc := "(II)I" } : Jvm.MethodName) ({ cls := "ToneGraph", name := "addDelay", desc := "(II)I" } : Jvm.MethodName)) ∈ zAll := zt3 (List.mem_of_getElem? (i := 120) (by decide +kernel)) rfl
theorem wcode_X6_addDelay : (Jvm.Cond.code ({ cls := "ToneGraph", name := "addDelay", desc := "(II)I" } : Jvm.MethodName) prog_1_method_3_code (4 : Nat) (Option.some Jvm.ClassFile.FieldType.int)) ∈ zAll := zt3 (List.mem_of_getElem? (i := 121) (by decide +kernel)) rfl
theorem wm_L_131 : (Jvm.Cond.methodLink "ToneGraphLaw" (131 : Nat) ({ cls := "ToneGraphLaw", name := "addFilter", desc := "(LToneGraph;III[J)I" } : Jvm.MethodName)) ∈ zAll := zt3 (List.mem_of_getElem? (i := 122) (by decide +kernel)) rfl
theorem ws_L_addFilter : (Jvm.Cond.static ({ cls := "ToneGraphLaw", name := "addFilter", desc := "(LToneGraph;III[J)I" } : Jvm.MethodName)) ∈ zAll := zt3 (List.mem_of_getElem? (i := 123) (by decide +kernel)) rfl
theorem wcode_L_addFilter : (Jvm.Cond.codeWith ({ cls := "ToneGraphLaw", name := "addFilter", desc := "(LToneGraph;III[J)I" } : Jvm.MethodName) method_5_code (6 : Nat) (Option.some Jvm.ClassFile.FieldType.int) [((0 : Nat), (12 : Nat), (15 : Nat), (13 : Nat)), ((0 : Nat), (12 : Nat), (19 : Nat), (15 : Nat))]) ∈ zAll := zt3 (List.mem_of_getElem? (i := 124) (by decide +kernel)) rfl
theorem wm_L_21 : (Jvm.Cond.methodLink "ToneGraphLaw" (21 : Nat) ({ cls := "ToneGraph", name := "addFilter", desc := "(III)I" } : Jvm.MethodName)) ∈ zAll := zt3 (List.mem_of_getElem? (i := 125) (by decide +kernel)) rfl
theorem wi_X6_addFilter : (Jvm.Cond.instanceMethod ({ cls := "ToneGraph", name := "addFilter", desc := "(III)I" } : Jvm.MethodName)) ∈ zAll := zt3 (List.mem_of_getElem? (i := 126) (by decide +kernel)) rfl
theorem wv_X6_addFilter : (Jvm.Cond.selects "ToneGraph" ({ cls := "ToneGraph", name := "addFilter", desc := "(III)I" } : Jvm.MethodName) ({ cls := "ToneGraph", name := "addFilter", desc := "(III)I" } : Jvm.MethodName)) ∈ zAll := zt3 (List.mem_of_getElem? (i := 127) (by decide +kernel)) rfl
theorem wcode_X6_addFilter : (Jvm.Cond.code ({ cls := "ToneGraph", name := "addFilter", desc := "(III)I" } : Jvm.MethodName) prog_1_method_4_code (5 : Nat) (Option.some Jvm.ClassFile.FieldType.int)) ∈ zAll := zt3 (List.mem_of_getElem? (i := 128) (by decide +kernel)) rfl
theorem wm_L_135 : (Jvm.Cond.methodLink "ToneGraphLaw" (135 : Nat) ({ cls := "ToneGraphLaw", name := "addBus", desc := "(LToneGraph;I[J)I" } : Jvm.MethodName)) ∈ zAll := zt3 (List.mem_of_getElem? (i := 129) (by decide +kernel)) rfl
theorem ws_L_addBus : (Jvm.Cond.static ({ cls := "ToneGraphLaw", name := "addBus", desc := "(LToneGraph;I[J)I" } : Jvm.MethodName)) ∈ zAll := zt3 (List.mem_of_getElem? (i := 130) (by decide +kernel)) rfl
theorem wcode_L_addBus : (Jvm.Cond.codeWith ({ cls := "ToneGraphLaw", name := "addBus", desc := "(LToneGraph;I[J)I" } : Jvm.MethodName) method_6_code (4 : Nat) (Option.some Jvm.ClassFile.FieldType.int) [((0 : Nat), (9 : Nat), (12 : Nat), (13 : Nat)), ((0 : Nat), (9 : Nat), (15 : Nat), (15 : Nat))]) ∈ zAll := zt3 (List.mem_of_getElem? (i := 131) (by decide +kernel)) rfl
theorem wm_L_25 : (Jvm.Cond.methodLink "ToneGraphLaw" (25 : Nat) ({ cls := "ToneGraph", name := "addBus", desc := "(I)I" } : Jvm.MethodName)) ∈ zAll := zt3 (List.mem_of_getElem? (i := 132) (by decide +kernel)) rfl
theorem wi_X6_addBus : (Jvm.Cond.instanceMethod ({ cls := "ToneGraph", name := "addBus", desc := "(I)I" } : Jvm.MethodName)) ∈ zAll := zt3 (List.mem_of_getElem? (i := 133) (by decide +kernel)) rfl
theorem wv_X6_addBus : (Jvm.Cond.selects "ToneGraph" ({ cls := "ToneGraph", name := "addBus", desc := "(I)I" } : Jvm.MethodName) ({ cls := "ToneGraph", name := "addBus", desc := "(I)I" } : Jvm.MethodName)) ∈ zAll := zt3 (List.mem_of_getElem? (i := 134) (by decide +kernel)) rfl
theorem wcode_X6_addBus : (Jvm.Cond.code ({ cls := "ToneGraph", name := "addBus", desc := "(I)I" } : Jvm.MethodName) prog_1_method_5_code (3 : Nat) (Option.some Jvm.ClassFile.FieldType.int)) ∈ zAll := zt3 (List.mem_of_getElem? (i := 135) (by decide +kernel)) rfl
theorem wm_L_138 : (Jvm.Cond.methodLink "ToneGraphLaw" (138 : Nat) ({ cls := "ToneGraphLaw", name := "connect", desc := "(LToneGraph;III[J)I" } : Jvm.MethodName)) ∈ zAll := zt3 (List.mem_of_getElem? (i := 136) (by decide +kernel)) rfl
theorem ws_L_connect : (Jvm.Cond.static ({ cls := "ToneGraphLaw", name := "connect", desc := "(LToneGraph;III[J)I" } : Jvm.MethodName)) ∈ zAll := zt3 (List.mem_of_getElem? (i := 137) (by decide +kernel)) rfl
theorem wcode_L_connect : (Jvm.Cond.codeWith ({ cls := "ToneGraphLaw", name := "connect", desc := "(LToneGraph;III[J)I" } : Jvm.MethodName) method_7_code (6 : Nat) (Option.some Jvm.ClassFile.FieldType.int) [((0 : Nat), (12 : Nat), (15 : Nat), (31 : Nat)), ((0 : Nat), (12 : Nat), (19 : Nat), (13 : Nat)), ((0 : Nat), (12 : Nat), (23 : Nat), (15 : Nat)), ((0 : Nat), (12 : Nat), (27 : Nat), (33 : Nat))]) ∈ zAll := zt3 (List.mem_of_getElem? (i := 138) (by decide +kernel)) rfl
theorem wc_L_31 : (Jvm.Cond.classLink "ToneGraphLaw" (31 : Nat) "java/lang/IndexOutOfBoundsException") ∈ zAll := zt3 (List.mem_of_getElem? (i := 139) (by decide +kernel)) rfl
theorem wt_ArrayIndexOutOfBoundsException : (Jvm.Cond.instantiable "java/lang/ArrayIndexOutOfBoundsException" (6 : Nat)) ∈ zAll := zt3 (List.mem_of_getElem? (i := 140) (by decide +kernel)) rfl
theorem wi_ArrayIndexOutOfBoundsException_init : (Jvm.Cond.instanceMethod ({ cls := "java/lang/ArrayIndexOutOfBoundsException", name := "<init>", desc := "(Ljava/lang/String;)V" } : Jvm.MethodName)) ∈ zAll := zt3 (List.mem_of_getElem? (i := 141) (by decide +kernel)) rfl
theorem wcode_ArrayIndexOutOfBoundsException_init : (Jvm.Cond.code ({ cls := "java/lang/ArrayIndexOutOfBoundsException", name := "<init>", desc := "(Ljava/lang/String;)V" } : Jvm.MethodName) prog_12_method_2_code (2 : Nat) (Option.none : Option Jvm.ClassFile.FieldType)) ∈ zAll := zt3 (List.mem_of_getElem? (i := 142) (by decide +kernel)) rfl
theorem wm_ArrayIndexOutOfBoundsException_7 : (Jvm.Cond.methodLink "java/lang/ArrayIndexOutOfBoundsException" (7 : Nat) ({ cls := "java/lang/IndexOutOfBoundsException", name := "<init>", desc := "(Ljava/lang/String;)V" } : Jvm.MethodName)) ∈ zAll := zt3 (List.mem_of_getElem? (i := 143) (by decide +kernel)) rfl
theorem wi_IndexOutOfBoundsException_init : (Jvm.Cond.instanceMethod ({ cls := "java/lang/IndexOutOfBoundsException", name := "<init>", desc := "(Ljava/lang/String;)V" } : Jvm.MethodName)) ∈ zAll := zt3 (List.mem_of_getElem? (i := 144) (by decide +kernel)) rfl
theorem wcode_IndexOutOfBoundsException_init : (Jvm.Cond.code ({ cls := "java/lang/IndexOutOfBoundsException", name := "<init>", desc := "(Ljava/lang/String;)V" } : Jvm.MethodName) prog_16_method_2_code (2 : Nat) (Option.none : Option Jvm.ClassFile.FieldType)) ∈ zAll := zt3 (List.mem_of_getElem? (i := 145) (by decide +kernel)) rfl
theorem wm_IndexOutOfBoundsException_7 : (Jvm.Cond.methodLink "java/lang/IndexOutOfBoundsException" (7 : Nat) ({ cls := "java/lang/RuntimeException", name := "<init>", desc := "(Ljava/lang/String;)V" } : Jvm.MethodName)) ∈ zAll := zt3 (List.mem_of_getElem? (i := 146) (by decide +kernel)) rfl
theorem wt_String : (Jvm.Cond.instantiable "java/lang/String" (4 : Nat)) ∈ zAll := zt3 (List.mem_of_getElem? (i := 158) (by decide +kernel)) rfl
theorem wc_L_33 : (Jvm.Cond.classLink "ToneGraphLaw" (33 : Nat) "java/lang/UnsupportedOperationException") ∈ zAll := zt3 (List.mem_of_getElem? (i := 163) (by decide +kernel)) rfl
theorem wm_L_28 : (Jvm.Cond.methodLink "ToneGraphLaw" (28 : Nat) ({ cls := "ToneGraph", name := "connect", desc := "(III)I" } : Jvm.MethodName)) ∈ zAll := zt3 (List.mem_of_getElem? (i := 164) (by decide +kernel)) rfl
theorem wi_X6_connect : (Jvm.Cond.instanceMethod ({ cls := "ToneGraph", name := "connect", desc := "(III)I" } : Jvm.MethodName)) ∈ zAll := zt3 (List.mem_of_getElem? (i := 165) (by decide +kernel)) rfl
theorem wv_X6_connect : (Jvm.Cond.selects "ToneGraph" ({ cls := "ToneGraph", name := "connect", desc := "(III)I" } : Jvm.MethodName) ({ cls := "ToneGraph", name := "connect", desc := "(III)I" } : Jvm.MethodName)) ∈ zAll := zt3 (List.mem_of_getElem? (i := 166) (by decide +kernel)) rfl
theorem wcode_X6_connect : (Jvm.Cond.code ({ cls := "ToneGraph", name := "connect", desc := "(III)I" } : Jvm.MethodName) prog_1_method_6_code (4 : Nat) (Option.some Jvm.ClassFile.FieldType.int)) ∈ zAll := zt3 (List.mem_of_getElem? (i := 167) (by decide +kernel)) rfl
theorem wm_X6_87 : (Jvm.Cond.methodLink "ToneGraph" (87 : Nat) ({ cls := "ToneGraph", name := "refuseNoNode", desc := "(I)V" } : Jvm.MethodName)) ∈ zAll := zt3 (List.mem_of_getElem? (i := 168) (by decide +kernel)) rfl
theorem wi_X6_refuseNoNode : (Jvm.Cond.instanceMethod ({ cls := "ToneGraph", name := "refuseNoNode", desc := "(I)V" } : Jvm.MethodName)) ∈ zAll := zt3 (List.mem_of_getElem? (i := 170) (by decide +kernel)) rfl
theorem wcode_X6_refuseNoNode : (Jvm.Cond.code ({ cls := "ToneGraph", name := "refuseNoNode", desc := "(I)V" } : Jvm.MethodName) prog_1_method_46_code (2 : Nat) (Option.none : Option Jvm.ClassFile.FieldType)) ∈ zAll := zt3 (List.mem_of_getElem? (i := 171) (by decide +kernel)) rfl
theorem wc_X6_271 : (Jvm.Cond.classLink "ToneGraph" (271 : Nat) "java/lang/IndexOutOfBoundsException") ∈ zAll := zt3 (List.mem_of_getElem? (i := 172) (by decide +kernel)) rfl
theorem wt_IndexOutOfBoundsException : (Jvm.Cond.instantiable "java/lang/IndexOutOfBoundsException" (6 : Nat)) ∈ zAll := zt3 (List.mem_of_getElem? (i := 173) (by decide +kernel)) rfl
theorem wm_X6_275 : (Jvm.Cond.methodLink "ToneGraph" (275 : Nat) ({ cls := "java/lang/IndexOutOfBoundsException", name := "<init>", desc := "(Ljava/lang/String;)V" } : Jvm.MethodName)) ∈ zAll := zt3 (List.mem_of_getElem? (i := 182) (by decide +kernel)) rfl
theorem wm_X6_98 : (Jvm.Cond.methodLink "ToneGraph" (98 : Nat) ({ cls := "ToneGraph$Board", name := "findWire", desc := "(II)I" } : Jvm.MethodName)) ∈ zAll := zt3 (List.mem_of_getElem? (i := 186) (by decide +kernel)) rfl
theorem wi_X0_findWire : (Jvm.Cond.instanceMethod ({ cls := "ToneGraph$Board", name := "findWire", desc := "(II)I" } : Jvm.MethodName)) ∈ zAll := zt3 (List.mem_of_getElem? (i := 187) (by decide +kernel)) rfl
theorem wv_X0_findWire : (Jvm.Cond.selects "ToneGraph$Board" ({ cls := "ToneGraph$Board", name := "findWire", desc := "(II)I" } : Jvm.MethodName) ({ cls := "ToneGraph$Board", name := "findWire", desc := "(II)I" } : Jvm.MethodName)) ∈ zAll := zt3 (List.mem_of_getElem? (i := 188) (by decide +kernel)) rfl
theorem wcode_X0_findWire : (Jvm.Cond.code ({ cls := "ToneGraph$Board", name := "findWire", desc := "(II)I" } : Jvm.MethodName) prog_2_method_3_code (4 : Nat) (Option.some Jvm.ClassFile.FieldType.int)) ∈ zAll := zt3 (List.mem_of_getElem? (i := 189) (by decide +kernel)) rfl
theorem wm_X6_114 : (Jvm.Cond.methodLink "ToneGraph" (114 : Nat) ({ cls := "ToneGraph$Board", name := "closesBareCircle", desc := "(II)Z" } : Jvm.MethodName)) ∈ zAll := zt3 (List.mem_of_getElem? (i := 191) (by decide +kernel)) rfl
theorem wi_X0_closesBareCircle : (Jvm.Cond.instanceMethod ({ cls := "ToneGraph$Board", name := "closesBareCircle", desc := "(II)Z" } : Jvm.MethodName)) ∈ zAll := zt3 (List.mem_of_getElem? (i := 192) (by decide +kernel)) rfl
theorem wv_X0_closesBareCircle : (Jvm.Cond.selects "ToneGraph$Board" ({ cls := "ToneGraph$Board", name := "closesBareCircle", desc := "(II)Z" } : Jvm.MethodName) ({ cls := "ToneGraph$Board", name := "closesBareCircle", desc := "(II)Z" } : Jvm.MethodName)) ∈ zAll := zt3 (List.mem_of_getElem? (i := 193) (by decide +kernel)) rfl
theorem wcode_X0_closesBareCircle : (Jvm.Cond.code ({ cls := "ToneGraph$Board", name := "closesBareCircle", desc := "(II)Z" } : Jvm.MethodName) prog_2_method_6_code (6 : Nat) (Option.some Jvm.ClassFile.FieldType.boolean)) ∈ zAll := zt3 (List.mem_of_getElem? (i := 194) (by decide +kernel)) rfl
theorem wc_X6_118 : (Jvm.Cond.classLink "ToneGraph" (118 : Nat) "java/lang/UnsupportedOperationException") ∈ zAll := zt3 (List.mem_of_getElem? (i := 195) (by decide +kernel)) rfl
theorem wt_UnsupportedOperationException : (Jvm.Cond.instantiable "java/lang/UnsupportedOperationException" (6 : Nat)) ∈ zAll := zt3 (List.mem_of_getElem? (i := 196) (by decide +kernel)) rfl
theorem wm_X6_122 : (Jvm.Cond.methodLink "ToneGraph" (122 : Nat) ({ cls := "java/lang/UnsupportedOperationException", name := "<init>", desc := "(Ljava/lang/String;)V" } : Jvm.MethodName)) ∈ zAll := zt3 (List.mem_of_getElem? (i := 205) (by decide +kernel)) rfl
theorem wi_UnsupportedOperationException_init : (Jvm.Cond.instanceMethod ({ cls := "java/lang/UnsupportedOperationException", name := "<init>", desc := "(Ljava/lang/String;)V" } : Jvm.MethodName)) ∈ zAll := zt3 (List.mem_of_getElem? (i := 206) (by decide +kernel)) rfl
theorem wcode_UnsupportedOperationException_init : (Jvm.Cond.code ({ cls := "java/lang/UnsupportedOperationException", name := "<init>", desc := "(Ljava/lang/String;)V" } : Jvm.MethodName) prog_22_method_2_code (2 : Nat) (Option.none : Option Jvm.ClassFile.FieldType)) ∈ zAll := zt3 (List.mem_of_getElem? (i := 207) (by decide +kernel)) rfl
theorem wm_UnsupportedOperationException_7 : (Jvm.Cond.methodLink "java/lang/UnsupportedOperationException" (7 : Nat) ({ cls := "java/lang/RuntimeException", name := "<init>", desc := "(Ljava/lang/String;)V" } : Jvm.MethodName)) ∈ zAll := zt3 (List.mem_of_getElem? (i := 208) (by decide +kernel)) rfl
theorem wm_X6_123 : (Jvm.Cond.methodLink "ToneGraph" (123 : Nat) ({ cls := "ToneGraph$Board", name := "addWire", desc := "(III)I" } : Jvm.MethodName)) ∈ zAll := zt3 (List.mem_of_getElem? (i := 211) (by decide +kernel)) rfl
theorem wi_X0_addWire : (Jvm.Cond.instanceMethod ({ cls := "ToneGraph$Board", name := "addWire", desc := "(III)I" } : Jvm.MethodName)) ∈ zAll := zt3 (List.mem_of_getElem? (i := 212) (by decide +kernel)) rfl
theorem wv_X0_addWire : (Jvm.Cond.selects "ToneGraph$Board" ({ cls := "ToneGraph$Board", name := "addWire", desc := "(III)I" } : Jvm.MethodName) ({ cls := "ToneGraph$Board", name := "addWire", desc := "(III)I" } : Jvm.MethodName)) ∈ zAll := zt3 (List.mem_of_getElem? (i := 213) (by decide +kernel)) rfl
theorem wcode_X0_addWire : (Jvm.Cond.code ({ cls := "ToneGraph$Board", name := "addWire", desc := "(III)I" } : Jvm.MethodName) prog_2_method_4_code (5 : Nat) (Option.some Jvm.ClassFile.FieldType.int)) ∈ zAll := zt3 (List.mem_of_getElem? (i := 214) (by decide +kernel)) rfl
theorem wm_L_141 : (Jvm.Cond.methodLink "ToneGraphLaw" (141 : Nat) ({ cls := "ToneGraphLaw", name := "disconnect", desc := "(LToneGraph;II[J)I" } : Jvm.MethodName)) ∈ zAll := zt3 (List.mem_of_getElem? (i := 215) (by decide +kernel)) rfl
theorem ws_L_disconnect : (Jvm.Cond.static ({ cls := "ToneGraphLaw", name := "disconnect", desc := "(LToneGraph;II[J)I" } : Jvm.MethodName)) ∈ zAll := zt3 (List.mem_of_getElem? (i := 216) (by decide +kernel)) rfl
theorem wcode_L_disconnect : (Jvm.Cond.codeWith ({ cls := "ToneGraphLaw", name := "disconnect", desc := "(LToneGraph;II[J)I" } : Jvm.MethodName) method_8_code (5 : Nat) (Option.some Jvm.ClassFile.FieldType.int) [((0 : Nat), (10 : Nat), (13 : Nat), (31 : Nat)), ((0 : Nat), (10 : Nat), (17 : Nat), (38 : Nat))]) ∈ zAll := zt3 (List.mem_of_getElem? (i := 217) (by decide +kernel)) rfl
theorem wc_L_38 : (Jvm.Cond.classLink "ToneGraphLaw" (38 : Nat) "java/util/NoSuchElementException") ∈ zAll := zt3 (List.mem_of_getElem? (i := 218) (by decide +kernel)) rfl
theorem wm_L_35 : (Jvm.Cond.methodLink "ToneGraphLaw" (35 : Nat) ({ cls := "ToneGraph", name := "disconnect", desc := "(II)I" } : Jvm.MethodName)) ∈ zAll := zt3 (List.mem_of_getElem? (i := 219) (by decide +kernel)) rfl
theorem wi_X6_disconnect : (Jvm.Cond.instanceMethod ({ cls := "ToneGraph", name := "disconnect", desc := "(II)I" } : Jvm.MethodName)) ∈ zAll := zt3 (List.mem_of_getElem? (i := 220) (by decide +kernel)) rfl
theorem wv_X6_disconnect : (Jvm.Cond.selects "ToneGraph" ({ cls := "ToneGraph", name := "disconnect", desc := "(II)I" } : Jvm.MethodName) ({ cls := "ToneGraph", name := "disconnect", desc := "(II)I" } : Jvm.MethodName)) ∈ zAll := zt3 (List.mem_of_getElem? (i := 221) (by decide +kernel)) rfl
theorem wcode_X6_disconnect : (Jvm.Cond.code ({ cls := "ToneGraph", name := "disconnect", desc := "(II)I" } : Jvm.MethodName) prog_1_method_7_code (4 : Nat) (Option.some Jvm.ClassFile.FieldType.int)) ∈ zAll := zt3 (List.mem_of_getElem? (i := 222) (by decide +kernel)) rfl
theorem wc_X6_127 : (Jvm.Cond.classLink "ToneGraph" (127 : Nat) "java/util/NoSuchElementException") ∈ zAll := zt3 (List.mem_of_getElem? (i := 223) (by decide +kernel)) rfl
theorem wt_NoSuchElementException : (Jvm.Cond.instantiable "java/util/NoSuchElementException" (6 : Nat)) ∈ zAll := zt3 (List.mem_of_getElem? (i := 224) (by decide +kernel)) rfl
theorem wm_X6_131 : (Jvm.Cond.methodLink "ToneGraph" (131 : Nat) ({ cls := "java/util/NoSuchElementException", name := "<init>", desc := "(Ljava/lang/String;)V" } : Jvm.MethodName)) ∈ zAll := zt3 (List.mem_of_getElem? (i := 233) (by decide +kernel)) rfl
theorem wi_NoSuchElementException_init : (Jvm.Cond.instanceMethod ({ cls := "java/util/NoSuchElementException", name := "<init>", desc := "(Ljava/lang/String;)V" } : Jvm.MethodName)) ∈ zAll := zt3 (List.mem_of_getElem? (i := 234) (by decide +kernel)) rfl
theorem wcode_NoSuchElementException_init : (Jvm.Cond.code ({ cls := "java/util/NoSuchElementException", name := "<init>", desc := "(Ljava/lang/String;)V" } : Jvm.MethodName) prog_23_method_4_code (2 : Nat) (Option.none : Option Jvm.ClassFile.FieldType)) ∈ zAll := zt3 (List.mem_of_getElem? (i := 235) (by decide +kernel)) rfl
theorem wm_NoSuchElementException_13 : (Jvm.Cond.methodLink "java/util/NoSuchElementException" (13 : Nat) ({ cls := "java/lang/RuntimeException", name := "<init>", desc := "(Ljava/lang/String;)V" } : Jvm.MethodName)) ∈ zAll := zt3 (List.mem_of_getElem? (i := 236) (by decide +kernel)) rfl
theorem wm_X6_132 : (Jvm.Cond.methodLink "ToneGraph" (132 : Nat) ({ cls := "ToneGraph$Board", name := "removeWire", desc := "(II)I" } : Jvm.MethodName)) ∈ zAll := zt3 (List.mem_of_getElem? (i := 239) (by decide +kernel)) rfl
theorem zt4 {w : Cond} (h : w ∈ tables_1_4) (g : goodWord w = true) : w ∈ zAll := List.mem_filter.mpr ⟨List.mem_append_right _ (List.mem_append_right _ (List.mem_append_right _ (List.mem_append_right _ (List.mem_append_left _ h)))), g⟩
theorem wi_X0_removeWire : (Jvm.Cond.instanceMethod ({ cls := "ToneGraph$Board", name := "removeWire", desc := "(II)I" } : Jvm.MethodName)) ∈ zAll := zt4 (List.mem_of_getElem? (i := 0) (by decide +kernel)) rfl
theorem wv_X0_removeWire : (Jvm.Cond.selects "ToneGraph$Board" ({ cls := "ToneGraph$Board", name := "removeWire", desc := "(II)I" } : Jvm.MethodName) ({ cls := "ToneGraph$Board", name := "removeWire", desc := "(II)I" } : Jvm.MethodName)) ∈ zAll := zt4 (List.mem_of_getElem? (i := 1) (by decide +kernel)) rfl
theorem wcode_X0_removeWire : (Jvm.Cond.code ({ cls := "ToneGraph$Board", name := "removeWire", desc := "(II)I" } : Jvm.MethodName) prog_2_method_5_code (5 : Nat) (Option.some Jvm.ClassFile.FieldType.int)) ∈ zAll := zt4 (List.mem_of_getElem? (i := 2) (by decide +kernel)) rfl
theorem wm_L_144 : (Jvm.Cond.methodLink "ToneGraphLaw" (144 : Nat) ({ cls := "ToneGraphLaw", name := "setGain", desc := "(LToneGraph;II[J)I" } : Jvm.MethodName)) ∈ zAll := zt4 (List.mem_of_getElem? (i := 3) (by decide +kernel)) rfl
theorem ws_L_setGain : (Jvm.Cond.static ({ cls := "ToneGraphLaw", name := "setGain", desc := "(LToneGraph;II[J)I" } : Jvm.MethodName)) ∈ zAll := zt4 (List.mem_of_getElem? (i := 4) (by decide +kernel)) rfl
theorem wcode_L_setGain : (Jvm.Cond.codeWith ({ cls := "ToneGraphLaw", name := "setGain", desc := "(LToneGraph;II[J)I" } : Jvm.MethodName) method_9_code (5 : Nat) (Option.some Jvm.ClassFile.FieldType.int) [((0 : Nat), (10 : Nat), (13 : Nat), (31 : Nat)), ((0 : Nat), (10 : Nat), (17 : Nat), (33 : Nat)), ((0 : Nat), (10 : Nat), (21 : Nat), (13 : Nat))]) ∈ zAll := zt4 (List.mem_of_getElem? (i := 5) (by decide +kernel)) rfl
theorem wm_L_40 : (Jvm.Cond.methodLink "ToneGraphLaw" (40 : Nat) ({ cls := "ToneGraph", name := "setGain", desc := "(II)I" } : Jvm.MethodName)) ∈ zAll := zt4 (List.mem_of_getElem? (i := 6) (by decide +kernel)) rfl
theorem wi_X6_setGain : (Jvm.Cond.instanceMethod ({ cls := "ToneGraph", name := "setGain", desc := "(II)I" } : Jvm.MethodName)) ∈ zAll := zt4 (List.mem_of_getElem? (i := 7) (by decide +kernel)) rfl
theorem wv_X6_setGain : (Jvm.Cond.selects "ToneGraph" ({ cls := "ToneGraph", name := "setGain", desc := "(II)I" } : Jvm.MethodName) ({ cls := "ToneGraph", name := "setGain", desc := "(II)I" } : Jvm.MethodName)) ∈ zAll := zt4 (List.mem_of_getElem? (i := 8) (by decide +kernel)) rfl
theorem wcode_X6_setGain : (Jvm.Cond.code ({ cls := "ToneGraph", name := "setGain", desc := "(II)I" } : Jvm.MethodName) prog_1_method_8_code (4 : Nat) (Option.some Jvm.ClassFile.FieldType.int)) ∈ zAll := zt4 (List.mem_of_getElem? (i := 9) (by decide +kernel)) rfl
theorem wm_L_147 : (Jvm.Cond.methodLink "ToneGraphLaw" (147 : Nat) ({ cls := "ToneGraphLaw", name := "setOutput", desc := "(LToneGraph;I[J)I" } : Jvm.MethodName)) ∈ zAll := zt4 (List.mem_of_getElem? (i := 11) (by decide +kernel)) rfl
theorem ws_L_setOutput : (Jvm.Cond.static ({ cls := "ToneGraphLaw", name := "setOutput", desc := "(LToneGraph;I[J)I" } : Jvm.MethodName)) ∈ zAll := zt4 (List.mem_of_getElem? (i := 12) (by decide +kernel)) rfl
theorem wcode_L_setOutput : (Jvm.Cond.codeWith ({ cls := "ToneGraphLaw", name := "setOutput", desc := "(LToneGraph;I[J)I" } : Jvm.MethodName) method_10_code (4 : Nat) (Option.some Jvm.ClassFile.FieldType.int) [((0 : Nat), (9 : Nat), (12 : Nat), (31 : Nat))]) ∈ zAll := zt4 (List.mem_of_getElem? (i := 13) (by decide +kernel)) rfl
theorem wm_L_43 : (Jvm.Cond.methodLink "ToneGraphLaw" (43 : Nat) ({ cls := "ToneGraph", name := "setOutput", desc := "(I)I" } : Jvm.MethodName)) ∈ zAll := zt4 (List.mem_of_getElem? (i := 14) (by decide +kernel)) rfl
theorem wi_X6_setOutput : (Jvm.Cond.instanceMethod ({ cls := "ToneGraph", name := "setOutput", desc := "(I)I" } : Jvm.MethodName)) ∈ zAll := zt4 (List.mem_of_getElem? (i := 15) (by decide +kernel)) rfl
theorem wv_X6_setOutput : (Jvm.Cond.selects "ToneGraph" ({ cls := "ToneGraph", name := "setOutput", desc := "(I)I" } : Jvm.MethodName) ({ cls := "ToneGraph", name := "setOutput", desc := "(I)I" } : Jvm.MethodName)) ∈ zAll := zt4 (List.mem_of_getElem? (i := 16) (by decide +kernel)) rfl
theorem wcode_X6_setOutput : (Jvm.Cond.code ({ cls := "ToneGraph", name := "setOutput", desc := "(I)I" } : Jvm.MethodName) prog_1_method_9_code (3 : Nat) (Option.some Jvm.ClassFile.FieldType.int)) ∈ zAll := zt4 (List.mem_of_getElem? (i := 17) (by decide +kernel)) rfl
theorem wm_L_154 : (Jvm.Cond.methodLink "ToneGraphLaw" (154 : Nat) ({ cls := "ToneGraphLaw", name := "kindOf", desc := "(LToneGraph;I[J)I" } : Jvm.MethodName)) ∈ zAll := zt4 (List.mem_of_getElem? (i := 18) (by decide +kernel)) rfl
theorem ws_L_kindOf : (Jvm.Cond.static ({ cls := "ToneGraphLaw", name := "kindOf", desc := "(LToneGraph;I[J)I" } : Jvm.MethodName)) ∈ zAll := zt4 (List.mem_of_getElem? (i := 19) (by decide +kernel)) rfl
theorem wcode_L_kindOf : (Jvm.Cond.codeWith ({ cls := "ToneGraphLaw", name := "kindOf", desc := "(LToneGraph;I[J)I" } : Jvm.MethodName) method_11_code (4 : Nat) (Option.some Jvm.ClassFile.FieldType.int) [((0 : Nat), (9 : Nat), (12 : Nat), (31 : Nat))]) ∈ zAll := zt4 (List.mem_of_getElem? (i := 20) (by decide +kernel)) rfl
theorem wm_L_46 : (Jvm.Cond.methodLink "ToneGraphLaw" (46 : Nat) ({ cls := "ToneGraph", name := "kindOf", desc := "(I)C" } : Jvm.MethodName)) ∈ zAll := zt4 (List.mem_of_getElem? (i := 21) (by decide +kernel)) rfl
theorem wi_X6_kindOf : (Jvm.Cond.instanceMethod ({ cls := "ToneGraph", name := "kindOf", desc := "(I)C" } : Jvm.MethodName)) ∈ zAll := zt4 (List.mem_of_getElem? (i := 22) (by decide +kernel)) rfl
theorem wv_X6_kindOf : (Jvm.Cond.selects "ToneGraph" ({ cls := "ToneGraph", name := "kindOf", desc := "(I)C" } : Jvm.MethodName) ({ cls := "ToneGraph", name := "kindOf", desc := "(I)C" } : Jvm.MethodName)) ∈ zAll := zt4 (List.mem_of_getElem? (i := 23) (by decide +kernel)) rfl
theorem wcode_X6_kindOf : (Jvm.Cond.code ({ cls := "ToneGraph", name := "kindOf", desc := "(I)C" } : Jvm.MethodName) prog_1_method_11_code (2 : Nat) (Option.some Jvm.ClassFile.FieldType.char)) ∈ zAll := zt4 (List.mem_of_getElem? (i := 24) (by decide +kernel)) rfl
theorem wm_L_157 : (Jvm.Cond.methodLink "ToneGraphLaw" (157 : Nat) ({ cls := "ToneGraphLaw", name := "wires", desc := "(LToneGraph;I[J)I" } : Jvm.MethodName)) ∈ zAll := zt4 (List.mem_of_getElem? (i := 25) (by decide +kernel)) rfl
theorem ws_L_wires : (Jvm.Cond.static ({ cls := "ToneGraphLaw", name := "wires", desc := "(LToneGraph;I[J)I" } : Jvm.MethodName)) ∈ zAll := zt4 (List.mem_of_getElem? (i := 26) (by decide +kernel)) rfl
theorem wcode_L_wires : (Jvm.Cond.codeWith ({ cls := "ToneGraphLaw", name := "wires", desc := "(LToneGraph;I[J)I" } : Jvm.MethodName) method_12_code (4 : Nat) (Option.some Jvm.ClassFile.FieldType.int) [((0 : Nat), (9 : Nat), (12 : Nat), (31 : Nat))]) ∈ zAll := zt4 (List.mem_of_getElem? (i := 27) (by decide +kernel)) rfl
theorem wm_L_50 : (Jvm.Cond.methodLink "ToneGraphLaw" (50 : Nat) ({ cls := "ToneGraph", name := "wires", desc := "(I)I" } : Jvm.MethodName)) ∈ zAll := zt4 (List.mem_of_getElem? (i := 28) (by decide +kernel)) rfl
theorem wi_X6_wires : (Jvm.Cond.instanceMethod ({ cls := "ToneGraph", name := "wires", desc := "(I)I" } : Jvm.MethodName)) ∈ zAll := zt4 (List.mem_of_getElem? (i := 29) (by decide +kernel)) rfl
theorem wv_X6_wires : (Jvm.Cond.selects "ToneGraph" ({ cls := "ToneGraph", name := "wires", desc := "(I)I" } : Jvm.MethodName) ({ cls := "ToneGraph", name := "wires", desc := "(I)I" } : Jvm.MethodName)) ∈ zAll := zt4 (List.mem_of_getElem? (i := 30) (by decide +kernel)) rfl
theorem wcode_X6_wires : (Jvm.Cond.code ({ cls := "ToneGraph", name := "wires", desc := "(I)I" } : Jvm.MethodName) prog_1_method_12_code (2 : Nat) (Option.some Jvm.ClassFile.FieldType.int)) ∈ zAll := zt4 (List.mem_of_getElem? (i := 31) (by decide +kernel)) rfl
theorem wm_L_160 : (Jvm.Cond.methodLink "ToneGraphLaw" (160 : Nat) ({ cls := "ToneGraphLaw", name := "wireFrom", desc := "(LToneGraph;II[J)I" } : Jvm.MethodName)) ∈ zAll := zt4 (List.mem_of_getElem? (i := 32) (by decide +kernel)) rfl
theorem ws_L_wireFrom : (Jvm.Cond.static ({ cls := "ToneGraphLaw", name := "wireFrom", desc := "(LToneGraph;II[J)I" } : Jvm.MethodName)) ∈ zAll := zt4 (List.mem_of_getElem? (i := 33) (by decide +kernel)) rfl
theorem wcode_L_wireFrom : (Jvm.Cond.codeWith ({ cls := "ToneGraphLaw", name := "wireFrom", desc := "(LToneGraph;II[J)I" } : Jvm.MethodName) method_13_code (5 : Nat) (Option.some Jvm.ClassFile.FieldType.int) [((0 : Nat), (10 : Nat), (13 : Nat), (31 : Nat)), ((0 : Nat), (10 : Nat), (17 : Nat), (38 : Nat))]) ∈ zAll := zt4 (List.mem_of_getElem? (i := 34) (by decide +kernel)) rfl
theorem wm_L_53 : (Jvm.Cond.methodLink "ToneGraphLaw" (53 : Nat) ({ cls := "ToneGraph", name := "wireFrom", desc := "(II)I" } : Jvm.MethodName)) ∈ zAll := zt4 (List.mem_of_getElem? (i := 35) (by decide +kernel)) rfl
theorem wi_X6_wireFrom : (Jvm.Cond.instanceMethod ({ cls := "ToneGraph", name := "wireFrom", desc := "(II)I" } : Jvm.MethodName)) ∈ zAll := zt4 (List.mem_of_getElem? (i := 36) (by decide +kernel)) rfl
theorem wv_X6_wireFrom : (Jvm.Cond.selects "ToneGraph" ({ cls := "ToneGraph", name := "wireFrom", desc := "(II)I" } : Jvm.MethodName) ({ cls := "ToneGraph", name := "wireFrom", desc := "(II)I" } : Jvm.MethodName)) ∈ zAll := zt4 (List.mem_of_getElem? (i := 37) (by decide +kernel)) rfl
theorem wcode_X6_wireFrom : (Jvm.Cond.code ({ cls := "ToneGraph", name := "wireFrom", desc := "(II)I" } : Jvm.MethodName) prog_1_method_13_code (3 : Nat) (Option.some Jvm.ClassFile.FieldType.int)) ∈ zAll := zt4 (List.mem_of_getElem? (i := 38) (by decide +kernel)) rfl
theorem wm_X6_144 : (Jvm.Cond.methodLink "ToneGraph" (144 : Nat) ({ cls := "ToneGraph", name := "refuseNoWire", desc := "(II)V" } : Jvm.MethodName)) ∈ zAll := zt4 (List.mem_of_getElem? (i := 39) (by decide +kernel)) rfl
theorem wi_X6_refuseNoWire : (Jvm.Cond.instanceMethod ({ cls := "ToneGraph", name := "refuseNoWire", desc := "(II)V" } : Jvm.MethodName)) ∈ zAll := zt4 (List.mem_of_getElem? (i := 41) (by decide +kernel)) rfl
theorem wcode_X6_refuseNoWire : (Jvm.Cond.code ({ cls := "ToneGraph", name := "refuseNoWire", desc := "(II)V" } : Jvm.MethodName) prog_1_method_47_code (3 : Nat) (Option.none : Option Jvm.ClassFile.FieldType)) ∈ zAll := zt4 (List.mem_of_getElem? (i := 42) (by decide +kernel)) rfl
theorem wm_L_163 : (Jvm.Cond.methodLink "ToneGraphLaw" (163 : Nat) ({ cls := "ToneGraphLaw", name := "wirePercent", desc := "(LToneGraph;II[J)I" } : Jvm.MethodName)) ∈ zAll := zt4 (List.mem_of_getElem? (i := 43) (by decide +kernel)) rfl
theorem ws_L_wirePercent : (Jvm.Cond.static ({ cls := "ToneGraphLaw", name := "wirePercent", desc := "(LToneGraph;II[J)I" } : Jvm.MethodName)) ∈ zAll := zt4 (List.mem_of_getElem? (i := 44) (by decide +kernel)) rfl
theorem wcode_L_wirePercent : (Jvm.Cond.codeWith ({ cls := "ToneGraphLaw", name := "wirePercent", desc := "(LToneGraph;II[J)I" } : Jvm.MethodName) method_14_code (5 : Nat) (Option.some Jvm.ClassFile.FieldType.int) [((0 : Nat), (10 : Nat), (13 : Nat), (31 : Nat)), ((0 : Nat), (10 : Nat), (17 : Nat), (38 : Nat))]) ∈ zAll := zt4 (List.mem_of_getElem? (i := 45) (by decide +kernel)) rfl
theorem wm_L_56 : (Jvm.Cond.methodLink "ToneGraphLaw" (56 : Nat) ({ cls := "ToneGraph", name := "wirePercent", desc := "(II)I" } : Jvm.MethodName)) ∈ zAll := zt4 (List.mem_of_getElem? (i := 46) (by decide +kernel)) rfl
theorem wi_X6_wirePercent : (Jvm.Cond.instanceMethod ({ cls := "ToneGraph", name := "wirePercent", desc := "(II)I" } : Jvm.MethodName)) ∈ zAll := zt4 (List.mem_of_getElem? (i := 47) (by decide +kernel)) rfl
theorem wv_X6_wirePercent : (Jvm.Cond.selects "ToneGraph" ({ cls := "ToneGraph", name := "wirePercent", desc := "(II)I" } : Jvm.MethodName) ({ cls := "ToneGraph", name := "wirePercent", desc := "(II)I" } : Jvm.MethodName)) ∈ zAll := zt4 (List.mem_of_getElem? (i := 48) (by decide +kernel)) rfl
theorem wcode_X6_wirePercent : (Jvm.Cond.code ({ cls := "ToneGraph", name := "wirePercent", desc := "(II)I" } : Jvm.MethodName) prog_1_method_14_code (3 : Nat) (Option.some Jvm.ClassFile.FieldType.int)) ∈ zAll := zt4 (List.mem_of_getElem? (i := 49) (by decide +kernel)) rfl
theorem wm_L_166 : (Jvm.Cond.methodLink "ToneGraphLaw" (166 : Nat) ({ cls := "ToneGraphLaw", name := "nodeAt", desc := "(LToneGraph;I[J)I" } : Jvm.MethodName)) ∈ zAll := zt4 (List.mem_of_getElem? (i := 50) (by decide +kernel)) rfl
theorem ws_L_nodeAt : (Jvm.Cond.static ({ cls := "ToneGraphLaw", name := "nodeAt", desc := "(LToneGraph;I[J)I" } : Jvm.MethodName)) ∈ zAll := zt4 (List.mem_of_getElem? (i := 51) (by decide +kernel)) rfl
theorem wcode_L_nodeAt : (Jvm.Cond.codeWith ({ cls := "ToneGraphLaw", name := "nodeAt", desc := "(LToneGraph;I[J)I" } : Jvm.MethodName) method_15_code (4 : Nat) (Option.some Jvm.ClassFile.FieldType.int) [((0 : Nat), (9 : Nat), (12 : Nat), (31 : Nat))]) ∈ zAll := zt4 (List.mem_of_getElem? (i := 52) (by decide +kernel)) rfl
theorem wm_L_59 : (Jvm.Cond.methodLink "ToneGraphLaw" (59 : Nat) ({ cls := "ToneGraph", name := "nodeAt", desc := "(I)I" } : Jvm.MethodName)) ∈ zAll := zt4 (List.mem_of_getElem? (i := 53) (by decide +kernel)) rfl
theorem wi_X6_nodeAt : (Jvm.Cond.instanceMethod ({ cls := "ToneGraph", name := "nodeAt", desc := "(I)I" } : Jvm.MethodName)) ∈ zAll := zt4 (List.mem_of_getElem? (i := 54) (by decide +kernel)) rfl
theorem wv_X6_nodeAt : (Jvm.Cond.selects "ToneGraph" ({ cls := "ToneGraph", name := "nodeAt", desc := "(I)I" } : Jvm.MethodName) ({ cls := "ToneGraph", name := "nodeAt", desc := "(I)I" } : Jvm.MethodName)) ∈ zAll := zt4 (List.mem_of_getElem? (i := 55) (by decide +kernel)) rfl
theorem wcode_X6_nodeAt : (Jvm.Cond.code ({ cls := "ToneGraph", name := "nodeAt", desc := "(I)I" } : Jvm.MethodName) prog_1_method_15_code (2 : Nat) (Option.some Jvm.ClassFile.FieldType.int)) ∈ zAll := zt4 (List.mem_of_getElem? (i := 56) (by decide +kernel)) rfl
theorem wm_L_173 : (Jvm.Cond.methodLink "ToneGraphLaw" (173 : Nat) ({ cls := "ToneGraphLaw", name := "setWave", desc := "(LToneGraph;C[J)I" } : Jvm.MethodName)) ∈ zAll := zt4 (List.mem_of_getElem? (i := 57) (by decide +kernel)) rfl
theorem ws_L_setWave : (Jvm.Cond.static ({ cls := "ToneGraphLaw", name := "setWave", desc := "(LToneGraph;C[J)I" } : Jvm.MethodName)) ∈ zAll := zt4 (List.mem_of_getElem? (i := 58) (by decide +kernel)) rfl
theorem wcode_L_setWave : (Jvm.Cond.codeWith ({ cls := "ToneGraphLaw", name := "setWave", desc := "(LToneGraph;C[J)I" } : Jvm.MethodName) method_16_code (4 : Nat) (Option.some Jvm.ClassFile.FieldType.int) [((0 : Nat), (9 : Nat), (12 : Nat), (13 : Nat))]) ∈ zAll := zt4 (List.mem_of_getElem? (i := 59) (by decide +kernel)) rfl
theorem wm_L_62 : (Jvm.Cond.methodLink "ToneGraphLaw" (62 : Nat) ({ cls := "ToneGraph", name := "setWave", desc := "(C)C" } : Jvm.MethodName)) ∈ zAll := zt4 (List.mem_of_getElem? (i := 60) (by decide +kernel)) rfl
theorem wi_X6_setWave : (Jvm.Cond.instanceMethod ({ cls := "ToneGraph", name := "setWave", desc := "(C)C" } : Jvm.MethodName)) ∈ zAll := zt4 (List.mem_of_getElem? (i := 61) (by decide +kernel)) rfl
theorem wv_X6_setWave : (Jvm.Cond.selects "ToneGraph" ({ cls := "ToneGraph", name := "setWave", desc := "(C)C" } : Jvm.MethodName) ({ cls := "ToneGraph", name := "setWave", desc := "(C)C" } : Jvm.MethodName)) ∈ zAll := zt4 (List.mem_of_getElem? (i := 62) (by decide +kernel)) rfl
theorem wcode_X6_setWave : (Jvm.Cond.code ({ cls := "ToneGraph", name := "setWave", desc := "(C)C" } : Jvm.MethodName) prog_1_method_17_code (3 : Nat) (Option.some Jvm.ClassFile.FieldType.char)) ∈ zAll := zt4 (List.mem_of_getElem? (i := 63) (by decide +kernel)) rfl
theorem wm_L_177 : (Jvm.Cond.methodLink "ToneGraphLaw" (177 : Nat) ({ cls := "ToneGraphLaw", name := "setEnvelope", desc := "(LToneGraph;IIII[J)I" } : Jvm.MethodName)) ∈ zAll := zt4 (List.mem_of_getElem? (i := 65) (by decide +kernel)) rfl
theorem ws_L_setEnvelope : (Jvm.Cond.static ({ cls := "ToneGraphLaw", name := "setEnvelope", desc := "(LToneGraph;IIII[J)I" } : Jvm.MethodName)) ∈ zAll := zt4 (List.mem_of_getElem? (i := 66) (by decide +kernel)) rfl
theorem wcode_L_setEnvelope : (Jvm.Cond.codeWith ({ cls := "ToneGraphLaw", name := "setEnvelope", desc := "(LToneGraph;IIII[J)I" } : Jvm.MethodName) method_17_code (7 : Nat) (Option.some Jvm.ClassFile.FieldType.int) [((0 : Nat), (14 : Nat), (17 : Nat), (13 : Nat))]) ∈ zAll := zt4 (List.mem_of_getElem? (i := 67) (by decide +kernel)) rfl
theorem wm_L_66 : (Jvm.Cond.methodLink "ToneGraphLaw" (66 : Nat) ({ cls := "ToneGraph", name := "setEnvelope", desc := "(IIII)I" } : Jvm.MethodName)) ∈ zAll := zt4 (List.mem_of_getElem? (i := 68) (by decide +kernel)) rfl
theorem wi_X6_setEnvelope : (Jvm.Cond.instanceMethod ({ cls := "ToneGraph", name := "setEnvelope", desc := "(IIII)I" } : Jvm.MethodName)) ∈ zAll := zt4 (List.mem_of_getElem? (i := 69) (by decide +kernel)) rfl
theorem wv_X6_setEnvelope : (Jvm.Cond.selects "ToneGraph" ({ cls := "ToneGraph", name := "setEnvelope", desc := "(IIII)I" } : Jvm.MethodName) ({ cls := "ToneGraph", name := "setEnvelope", desc := "(IIII)I" } : Jvm.MethodName)) ∈ zAll := zt4 (List.mem_of_getElem? (i := 70) (by decide +kernel)) rfl
theorem wcode_X6_setEnvelope : (Jvm.Cond.code ({ cls := "ToneGraph", name := "setEnvelope", desc := "(IIII)I" } : Jvm.MethodName) prog_1_method_18_code (6 : Nat) (Option.some Jvm.ClassFile.FieldType.int)) ∈ zAll := zt4 (List.mem_of_getElem? (i := 71) (by decide +kernel)) rfl
theorem wm_L_181 : (Jvm.Cond.methodLink "ToneGraphLaw" (181 : Nat) ({ cls := "ToneGraphLaw", name := "begin", desc := "(LToneGraph;II[J)I" } : Jvm.MethodName)) ∈ zAll := zt4 (List.mem_of_getElem? (i := 72) (by decide +kernel)) rfl
theorem ws_L_begin : (Jvm.Cond.static ({ cls := "ToneGraphLaw", name := "begin", desc := "(LToneGraph;II[J)I" } : Jvm.MethodName)) ∈ zAll := zt4 (List.mem_of_getElem? (i := 73) (by decide +kernel)) rfl
theorem wcode_L_begin : (Jvm.Cond.codeWith ({ cls := "ToneGraphLaw", name := "begin", desc := "(LToneGraph;II[J)I" } : Jvm.MethodName) method_18_code (5 : Nat) (Option.some Jvm.ClassFile.FieldType.int) [((0 : Nat), (10 : Nat), (13 : Nat), (13 : Nat))]) ∈ zAll := zt4 (List.mem_of_getElem? (i := 74) (by decide +kernel)) rfl
theorem wm_L_70 : (Jvm.Cond.methodLink "ToneGraphLaw" (70 : Nat) ({ cls := "ToneGraph", name := "begin", desc := "(II)I" } : Jvm.MethodName)) ∈ zAll := zt4 (List.mem_of_getElem? (i := 75) (by decide +kernel)) rfl
theorem wi_X6_begin : (Jvm.Cond.instanceMethod ({ cls := "ToneGraph", name := "begin", desc := "(II)I" } : Jvm.MethodName)) ∈ zAll := zt4 (List.mem_of_getElem? (i := 76) (by decide +kernel)) rfl
theorem wv_X6_begin : (Jvm.Cond.selects "ToneGraph" ({ cls := "ToneGraph", name := "begin", desc := "(II)I" } : Jvm.MethodName) ({ cls := "ToneGraph", name := "begin", desc := "(II)I" } : Jvm.MethodName)) ∈ zAll := zt4 (List.mem_of_getElem? (i := 77) (by decide +kernel)) rfl
theorem wcode_X6_begin : (Jvm.Cond.code ({ cls := "ToneGraph", name := "begin", desc := "(II)I" } : Jvm.MethodName) prog_1_method_19_code (3 : Nat) (Option.some Jvm.ClassFile.FieldType.int)) ∈ zAll := zt4 (List.mem_of_getElem? (i := 78) (by decide +kernel)) rfl
theorem wm_X6_167 : (Jvm.Cond.methodLink "ToneGraph" (167 : Nat) ({ cls := "ToneGraph", name := "refuseNoKey", desc := "(I)V" } : Jvm.MethodName)) ∈ zAll := zt4 (List.mem_of_getElem? (i := 79) (by decide +kernel)) rfl
theorem ws_X6_refuseNoKey : (Jvm.Cond.static ({ cls := "ToneGraph", name := "refuseNoKey", desc := "(I)V" } : Jvm.MethodName)) ∈ zAll := zt4 (List.mem_of_getElem? (i := 80) (by decide +kernel)) rfl
theorem wcode_X6_refuseNoKey : (Jvm.Cond.code ({ cls := "ToneGraph", name := "refuseNoKey", desc := "(I)V" } : Jvm.MethodName) prog_1_method_43_code (1 : Nat) (Option.none : Option Jvm.ClassFile.FieldType)) ∈ zAll := zt4 (List.mem_of_getElem? (i := 81) (by decide +kernel)) rfl
theorem wm_X6_174 : (Jvm.Cond.methodLink "ToneGraph" (174 : Nat) ({ cls := "ToneGraph$Choir", name := "startNote", desc := "(IICLToneGraph$Envelope;)I" } : Jvm.MethodName)) ∈ zAll := zt4 (List.mem_of_getElem? (i := 82) (by decide +kernel)) rfl
theorem wi_X1_startNote : (Jvm.Cond.instanceMethod ({ cls := "ToneGraph$Choir", name := "startNote", desc := "(IICLToneGraph$Envelope;)I" } : Jvm.MethodName)) ∈ zAll := zt4 (List.mem_of_getElem? (i := 83) (by decide +kernel)) rfl
theorem wv_X1_startNote : (Jvm.Cond.selects "ToneGraph$Choir" ({ cls := "ToneGraph$Choir", name := "startNote", desc := "(IICLToneGraph$Envelope;)I" } : Jvm.MethodName) ({ cls := "ToneGraph$Choir", name := "startNote", desc := "(IICLToneGraph$Envelope;)I" } : Jvm.MethodName)) ∈ zAll := zt4 (List.mem_of_getElem? (i := 84) (by decide +kernel)) rfl
theorem wcode_X1_startNote : (Jvm.Cond.code ({ cls := "ToneGraph$Choir", name := "startNote", desc := "(IICLToneGraph$Envelope;)I" } : Jvm.MethodName) prog_3_method_3_code (6 : Nat) (Option.some Jvm.ClassFile.FieldType.int)) ∈ zAll := zt4 (List.mem_of_getElem? (i := 85) (by decide +kernel)) rfl
theorem wm_X1_22 : (Jvm.Cond.methodLink "ToneGraph$Choir" (22 : Nat) ({ cls := "ToneGraph$Choir", name := "lowestFree", desc := "()I" } : Jvm.MethodName)) ∈ zAll := zt4 (List.mem_of_getElem? (i := 86) (by decide +kernel)) rfl
theorem wi_X1_lowestFree : (Jvm.Cond.instanceMethod ({ cls := "ToneGraph$Choir", name := "lowestFree", desc := "()I" } : Jvm.MethodName)) ∈ zAll := zt4 (List.mem_of_getElem? (i := 87) (by decide +kernel)) rfl
theorem wv_X1_lowestFree : (Jvm.Cond.selects "ToneGraph$Choir" ({ cls := "ToneGraph$Choir", name := "lowestFree", desc := "()I" } : Jvm.MethodName) ({ cls := "ToneGraph$Choir", name := "lowestFree", desc := "()I" } : Jvm.MethodName)) ∈ zAll := zt4 (List.mem_of_getElem? (i := 88) (by decide +kernel)) rfl
theorem wcode_X1_lowestFree : (Jvm.Cond.code ({ cls := "ToneGraph$Choir", name := "lowestFree", desc := "()I" } : Jvm.MethodName) prog_3_method_4_code (2 : Nat) (Option.some Jvm.ClassFile.FieldType.int)) ∈ zAll := zt4 (List.mem_of_getElem? (i := 89) (by decide +kernel)) rfl
theorem wm_X1_26 : (Jvm.Cond.methodLink "ToneGraph$Choir" (26 : Nat) ({ cls := "ToneGraph$Choir", name := "mostStealable", desc := "()I" } : Jvm.MethodName)) ∈ zAll := zt4 (List.mem_of_getElem? (i := 90) (by decide +kernel)) rfl
theorem wi_X1_mostStealable : (Jvm.Cond.instanceMethod ({ cls := "ToneGraph$Choir", name := "mostStealable", desc := "()I" } : Jvm.MethodName)) ∈ zAll := zt4 (List.mem_of_getElem? (i := 91) (by decide +kernel)) rfl
theorem wv_X1_mostStealable : (Jvm.Cond.selects "ToneGraph$Choir" ({ cls := "ToneGraph$Choir", name := "mostStealable", desc := "()I" } : Jvm.MethodName) ({ cls := "ToneGraph$Choir", name := "mostStealable", desc := "()I" } : Jvm.MethodName)) ∈ zAll := zt4 (List.mem_of_getElem? (i := 92) (by decide +kernel)) rfl
theorem wcode_X1_mostStealable : (Jvm.Cond.code ({ cls := "ToneGraph$Choir", name := "mostStealable", desc := "()I" } : Jvm.MethodName) prog_3_method_5_code (3 : Nat) (Option.some Jvm.ClassFile.FieldType.int)) ∈ zAll := zt4 (List.mem_of_getElem? (i := 93) (by decide +kernel)) rfl
theorem wm_X1_44 : (Jvm.Cond.methodLink "ToneGraph$Choir" (44 : Nat) ({ cls := "ToneGraph$Voice", name := "isStolenBefore", desc := "(LToneGraph$Voice;)Z" } : Jvm.MethodName)) ∈ zAll := zt4 (List.mem_of_getElem? (i := 94) (by decide +kernel)) rfl
theorem wi_X5_isStolenBefore : (Jvm.Cond.instanceMethod ({ cls := "ToneGraph$Voice", name := "isStolenBefore", desc := "(LToneGraph$Voice;)Z" } : Jvm.MethodName)) ∈ zAll := zt4 (List.mem_of_getElem? (i := 95) (by decide +kernel)) rfl
theorem wv_X5_isStolenBefore : (Jvm.Cond.selects "ToneGraph$Voice" ({ cls := "ToneGraph$Voice", name := "isStolenBefore", desc := "(LToneGraph$Voice;)Z" } : Jvm.MethodName) ({ cls := "ToneGraph$Voice", name := "isStolenBefore", desc := "(LToneGraph$Voice;)Z" } : Jvm.MethodName)) ∈ zAll := zt4 (List.mem_of_getElem? (i := 96) (by decide +kernel)) rfl
theorem wcode_X5_isStolenBefore : (Jvm.Cond.code ({ cls := "ToneGraph$Voice", name := "isStolenBefore", desc := "(LToneGraph$Voice;)Z" } : Jvm.MethodName) prog_7_method_7_code (2 : Nat) (Option.some Jvm.ClassFile.FieldType.boolean)) ∈ zAll := zt4 (List.mem_of_getElem? (i := 97) (by decide +kernel)) rfl
theorem wm_X1_36 : (Jvm.Cond.methodLink "ToneGraph$Choir" (36 : Nat) ({ cls := "ToneGraph$Voice", name := "start", desc := "(IICLToneGraph$Envelope;I)V" } : Jvm.MethodName)) ∈ zAll := zt4 (List.mem_of_getElem? (i := 98) (by decide +kernel)) rfl
theorem wi_X5_start : (Jvm.Cond.instanceMethod ({ cls := "ToneGraph$Voice", name := "start", desc := "(IICLToneGraph$Envelope;I)V" } : Jvm.MethodName)) ∈ zAll := zt4 (List.mem_of_getElem? (i := 99) (by decide +kernel)) rfl
theorem wv_X5_start : (Jvm.Cond.selects "ToneGraph$Voice" ({ cls := "ToneGraph$Voice", name := "start", desc := "(IICLToneGraph$Envelope;I)V" } : Jvm.MethodName) ({ cls := "ToneGraph$Voice", name := "start", desc := "(IICLToneGraph$Envelope;I)V" } : Jvm.MethodName)) ∈ zAll := zt4 (List.mem_of_getElem? (i := 100) (by decide +kernel)) rfl
theorem wcode_X5_start : (Jvm.Cond.code ({ cls := "ToneGraph$Voice", name := "start", desc := "(IICLToneGraph$Envelope;I)V" } : Jvm.MethodName) prog_7_method_2_code (6 : Nat) (Option.none : Option Jvm.ClassFile.FieldType)) ∈ zAll := zt4 (List.mem_of_getElem? (i := 101) (by decide +kernel)) rfl
theorem ws_X6_stepOfKey : (Jvm.Cond.static ({ cls := "ToneGraph", name := "stepOfKey", desc := "(I)I" } : Jvm.MethodName)) ∈ zAll := zt4 (List.mem_of_getElem? (i := 103) (by decide +kernel)) rfl
theorem wcode_X6_stepOfKey : (Jvm.Cond.code ({ cls := "ToneGraph", name := "stepOfKey", desc := "(I)I" } : Jvm.MethodName) prog_1_method_52_code (1 : Nat) (Option.some Jvm.ClassFile.FieldType.int)) ∈ zAll := zt4 (List.mem_of_getElem? (i := 104) (by decide +kernel)) rfl
theorem wf_X6_299 : (Jvm.Cond.fieldLink "ToneGraph" (299 : Nat) "ToneGraph" "LOWEST_STEPS" "[I") ∈ zAll := zt4 (List.mem_of_getElem? (i := 105) (by decide +kernel)) rfl
theorem wm_L_184 : (Jvm.Cond.methodLink "ToneGraphLaw" (184 : Nat) ({ cls := "ToneGraphLaw", name := "end", desc := "(LToneGraph;I[J)I" } : Jvm.MethodName)) ∈ zAll := zt4 (List.mem_of_getElem? (i := 107) (by decide +kernel)) rfl
theorem ws_L_end : (Jvm.Cond.static ({ cls := "ToneGraphLaw", name := "end", desc := "(LToneGraph;I[J)I" } : Jvm.MethodName)) ∈ zAll := zt4 (List.mem_of_getElem? (i := 108) (by decide +kernel)) rfl
theorem wcode_L_end : (Jvm.Cond.codeWith ({ cls := "ToneGraphLaw", name := "end", desc := "(LToneGraph;I[J)I" } : Jvm.MethodName) method_19_code (4 : Nat) (Option.some Jvm.ClassFile.FieldType.int) [((0 : Nat), (9 : Nat), (12 : Nat), (13 : Nat)), ((0 : Nat), (9 : Nat), (15 : Nat), (38 : Nat))]) ∈ zAll := zt4 (List.mem_of_getElem? (i := 109) (by decide +kernel)) rfl
theorem wm_L_73 : (Jvm.Cond.methodLink "ToneGraphLaw" (73 : Nat) ({ cls := "ToneGraph", name := "end", desc := "(I)I" } : Jvm.MethodName)) ∈ zAll := zt4 (List.mem_of_getElem? (i := 110) (by decide +kernel)) rfl
theorem wi_X6_end : (Jvm.Cond.instanceMethod ({ cls := "ToneGraph", name := "end", desc := "(I)I" } : Jvm.MethodName)) ∈ zAll := zt4 (List.mem_of_getElem? (i := 111) (by decide +kernel)) rfl
theorem wv_X6_end : (Jvm.Cond.selects "ToneGraph" ({ cls := "ToneGraph", name := "end", desc := "(I)I" } : Jvm.MethodName) ({ cls := "ToneGraph", name := "end", desc := "(I)I" } : Jvm.MethodName)) ∈ zAll := zt4 (List.mem_of_getElem? (i := 112) (by decide +kernel)) rfl
theorem wcode_X6_end : (Jvm.Cond.code ({ cls := "ToneGraph", name := "end", desc := "(I)I" } : Jvm.MethodName) prog_1_method_20_code (3 : Nat) (Option.some Jvm.ClassFile.FieldType.int)) ∈ zAll := zt4 (List.mem_of_getElem? (i := 113) (by decide +kernel)) rfl
theorem wm_X6_180 : (Jvm.Cond.methodLink "ToneGraph" (180 : Nat) ({ cls := "ToneGraph$Choir", name := "firstHeld", desc := "(I)I" } : Jvm.MethodName)) ∈ zAll := zt4 (List.mem_of_getElem? (i := 114) (by decide +kernel)) rfl
theorem wi_X1_firstHeld : (Jvm.Cond.instanceMethod ({ cls := "ToneGraph$Choir", name := "firstHeld", desc := "(I)I" } : Jvm.MethodName)) ∈ zAll := zt4 (List.mem_of_getElem? (i := 115) (by decide +kernel)) rfl
theorem wv_X1_firstHeld : (Jvm.Cond.selects "ToneGraph$Choir" ({ cls := "ToneGraph$Choir", name := "firstHeld", desc := "(I)I" } : Jvm.MethodName) ({ cls := "ToneGraph$Choir", name := "firstHeld", desc := "(I)I" } : Jvm.MethodName)) ∈ zAll := zt4 (List.mem_of_getElem? (i := 116) (by decide +kernel)) rfl
theorem wcode_X1_firstHeld : (Jvm.Cond.code ({ cls := "ToneGraph$Choir", name := "firstHeld", desc := "(I)I" } : Jvm.MethodName) prog_3_method_6_code (4 : Nat) (Option.some Jvm.ClassFile.FieldType.int)) ∈ zAll := zt4 (List.mem_of_getElem? (i := 117) (by decide +kernel)) rfl
theorem wm_X6_186 : (Jvm.Cond.methodLink "ToneGraph" (186 : Nat) ({ cls := "ToneGraph$Choir", name := "releaseNote", desc := "(I)V" } : Jvm.MethodName)) ∈ zAll := zt4 (List.mem_of_getElem? (i := 119) (by decide +kernel)) rfl
theorem wm_L_195 : (Jvm.Cond.methodLink "ToneGraphLaw" (195 : Nat) ({ cls := "ToneGraphLaw", name := "stateOf", desc := "(LToneGraph;I[J)I" } : Jvm.MethodName)) ∈ zAll := zt4 (List.mem_of_getElem? (i := 120) (by decide +kernel)) rfl
theorem ws_L_stateOf : (Jvm.Cond.static ({ cls := "ToneGraphLaw", name := "stateOf", desc := "(LToneGraph;I[J)I" } : Jvm.MethodName)) ∈ zAll := zt4 (List.mem_of_getElem? (i := 121) (by decide +kernel)) rfl
theorem wcode_L_stateOf : (Jvm.Cond.codeWith ({ cls := "ToneGraphLaw", name := "stateOf", desc := "(LToneGraph;I[J)I" } : Jvm.MethodName) method_20_code (4 : Nat) (Option.some Jvm.ClassFile.FieldType.int) [((0 : Nat), (9 : Nat), (12 : Nat), (31 : Nat))]) ∈ zAll := zt4 (List.mem_of_getElem? (i := 122) (by decide +kernel)) rfl
theorem wm_L_76 : (Jvm.Cond.methodLink "ToneGraphLaw" (76 : Nat) ({ cls := "ToneGraph", name := "stateOf", desc := "(I)C" } : Jvm.MethodName)) ∈ zAll := zt4 (List.mem_of_getElem? (i := 123) (by decide +kernel)) rfl
theorem wi_X6_stateOf : (Jvm.Cond.instanceMethod ({ cls := "ToneGraph", name := "stateOf", desc := "(I)C" } : Jvm.MethodName)) ∈ zAll := zt4 (List.mem_of_getElem? (i := 124) (by decide +kernel)) rfl
theorem wv_X6_stateOf : (Jvm.Cond.selects "ToneGraph" ({ cls := "ToneGraph", name := "stateOf", desc := "(I)C" } : Jvm.MethodName) ({ cls := "ToneGraph", name := "stateOf", desc := "(I)C" } : Jvm.MethodName)) ∈ zAll := zt4 (List.mem_of_getElem? (i := 125) (by decide +kernel)) rfl
theorem wcode_X6_stateOf : (Jvm.Cond.code ({ cls := "ToneGraph", name := "stateOf", desc := "(I)C" } : Jvm.MethodName) prog_1_method_23_code (2 : Nat) (Option.some Jvm.ClassFile.FieldType.char)) ∈ zAll := zt4 (List.mem_of_getElem? (i := 126) (by decide +kernel)) rfl
theorem wm_X6_195 : (Jvm.Cond.methodLink "ToneGraph" (195 : Nat) ({ cls := "ToneGraph", name := "refuseNoVoice", desc := "(I)V" } : Jvm.MethodName)) ∈ zAll := zt4 (List.mem_of_getElem? (i := 127) (by decide +kernel)) rfl
theorem ws_X6_refuseNoVoice : (Jvm.Cond.static ({ cls := "ToneGraph", name := "refuseNoVoice", desc := "(I)V" } : Jvm.MethodName)) ∈ zAll := zt4 (List.mem_of_getElem? (i := 128) (by decide +kernel)) rfl
theorem wcode_X6_refuseNoVoice : (Jvm.Cond.code ({ cls := "ToneGraph", name := "refuseNoVoice", desc := "(I)V" } : Jvm.MethodName) prog_1_method_44_code (1 : Nat) (Option.none : Option Jvm.ClassFile.FieldType)) ∈ zAll := zt4 (List.mem_of_getElem? (i := 129) (by decide +kernel)) rfl
theorem wm_X6_202 : (Jvm.Cond.methodLink "ToneGraph" (202 : Nat) ({ cls := "ToneGraph$Voice", name := "stage", desc := "()C" } : Jvm.MethodName)) ∈ zAll := zt4 (List.mem_of_getElem? (i := 131) (by decide +kernel)) rfl
theorem wi_X5_stage : (Jvm.Cond.instanceMethod ({ cls := "ToneGraph$Voice", name := "stage", desc := "()C" } : Jvm.MethodName)) ∈ zAll := zt4 (List.mem_of_getElem? (i := 132) (by decide +kernel)) rfl
theorem wv_X5_stage : (Jvm.Cond.selects "ToneGraph$Voice" ({ cls := "ToneGraph$Voice", name := "stage", desc := "()C" } : Jvm.MethodName) ({ cls := "ToneGraph$Voice", name := "stage", desc := "()C" } : Jvm.MethodName)) ∈ zAll := zt4 (List.mem_of_getElem? (i := 133) (by decide +kernel)) rfl
theorem wcode_X5_stage : (Jvm.Cond.code ({ cls := "ToneGraph$Voice", name := "stage", desc := "()C" } : Jvm.MethodName) prog_7_method_9_code (1 : Nat) (Option.some Jvm.ClassFile.FieldType.char)) ∈ zAll := zt4 (List.mem_of_getElem? (i := 134) (by decide +kernel)) rfl
theorem wm_L_198 : (Jvm.Cond.methodLink "ToneGraphLaw" (198 : Nat) ({ cls := "ToneGraphLaw", name := "keyOf", desc := "(LToneGraph;I[J)I" } : Jvm.MethodName)) ∈ zAll := zt4 (List.mem_of_getElem? (i := 135) (by decide +kernel)) rfl
theorem ws_L_keyOf : (Jvm.Cond.static ({ cls := "ToneGraphLaw", name := "keyOf", desc := "(LToneGraph;I[J)I" } : Jvm.MethodName)) ∈ zAll := zt4 (List.mem_of_getElem? (i := 136) (by decide +kernel)) rfl
theorem wcode_L_keyOf : (Jvm.Cond.codeWith ({ cls := "ToneGraphLaw", name := "keyOf", desc := "(LToneGraph;I[J)I" } : Jvm.MethodName) method_21_code (4 : Nat) (Option.some Jvm.ClassFile.FieldType.int) [((0 : Nat), (9 : Nat), (12 : Nat), (31 : Nat)), ((0 : Nat), (9 : Nat), (15 : Nat), (15 : Nat))]) ∈ zAll := zt4 (List.mem_of_getElem? (i := 137) (by decide +kernel)) rfl
theorem wm_L_79 : (Jvm.Cond.methodLink "ToneGraphLaw" (79 : Nat) ({ cls := "ToneGraph", name := "keyOf", desc := "(I)I" } : Jvm.MethodName)) ∈ zAll := zt4 (List.mem_of_getElem? (i := 138) (by decide +kernel)) rfl
theorem wi_X6_keyOf : (Jvm.Cond.instanceMethod ({ cls := "ToneGraph", name := "keyOf", desc := "(I)I" } : Jvm.MethodName)) ∈ zAll := zt4 (List.mem_of_getElem? (i := 139) (by decide +kernel)) rfl
theorem wv_X6_keyOf : (Jvm.Cond.selects "ToneGraph" ({ cls := "ToneGraph", name := "keyOf", desc := "(I)I" } : Jvm.MethodName) ({ cls := "ToneGraph", name := "keyOf", desc := "(I)I" } : Jvm.MethodName)) ∈ zAll := zt4 (List.mem_of_getElem? (i := 140) (by decide +kernel)) rfl
theorem wcode_X6_keyOf : (Jvm.Cond.code ({ cls := "ToneGraph", name := "keyOf", desc := "(I)I" } : Jvm.MethodName) prog_1_method_24_code (2 : Nat) (Option.some Jvm.ClassFile.FieldType.int)) ∈ zAll := zt4 (List.mem_of_getElem? (i := 141) (by decide +kernel)) rfl
theorem wm_X6_208 : (Jvm.Cond.methodLink "ToneGraph" (208 : Nat) ({ cls := "ToneGraph", name := "refuseFree", desc := "(I)V" } : Jvm.MethodName)) ∈ zAll := zt4 (List.mem_of_getElem? (i := 142) (by decide +kernel)) rfl
theorem wi_X6_refuseFree : (Jvm.Cond.instanceMethod ({ cls := "ToneGraph", name := "refuseFree", desc := "(I)V" } : Jvm.MethodName)) ∈ zAll := zt4 (List.mem_of_getElem? (i := 144) (by decide +kernel)) rfl
theorem wcode_X6_refuseFree : (Jvm.Cond.code ({ cls := "ToneGraph", name := "refuseFree", desc := "(I)V" } : Jvm.MethodName) prog_1_method_48_code (2 : Nat) (Option.none : Option Jvm.ClassFile.FieldType)) ∈ zAll := zt4 (List.mem_of_getElem? (i := 145) (by decide +kernel)) rfl
theorem wm_L_201 : (Jvm.Cond.methodLink "ToneGraphLaw" (201 : Nat) ({ cls := "ToneGraphLaw", name := "levelOf", desc := "(LToneGraph;I[J)I" } : Jvm.MethodName)) ∈ zAll := zt4 (List.mem_of_getElem? (i := 147) (by decide +kernel)) rfl
theorem ws_L_levelOf : (Jvm.Cond.static ({ cls := "ToneGraphLaw", name := "levelOf", desc := "(LToneGraph;I[J)I" } : Jvm.MethodName)) ∈ zAll := zt4 (List.mem_of_getElem? (i := 148) (by decide +kernel)) rfl
theorem wcode_L_levelOf : (Jvm.Cond.codeWith ({ cls := "ToneGraphLaw", name := "levelOf", desc := "(LToneGraph;I[J)I" } : Jvm.MethodName) method_22_code (4 : Nat) (Option.some Jvm.ClassFile.FieldType.int) [((0 : Nat), (9 : Nat), (12 : Nat), (31 : Nat))]) ∈ zAll := zt4 (List.mem_of_getElem? (i := 149) (by decide +kernel)) rfl
theorem wm_L_82 : (Jvm.Cond.methodLink "ToneGraphLaw" (82 : Nat) ({ cls := "ToneGraph", name := "levelOf", desc := "(I)I" } : Jvm.MethodName)) ∈ zAll := zt4 (List.mem_of_getElem? (i := 150) (by decide +kernel)) rfl
theorem wi_X6_levelOf : (Jvm.Cond.instanceMethod ({ cls := "ToneGraph", name := "levelOf", desc := "(I)I" } : Jvm.MethodName)) ∈ zAll := zt4 (List.mem_of_getElem? (i := 151) (by decide +kernel)) rfl
theorem wv_X6_levelOf : (Jvm.Cond.selects "ToneGraph" ({ cls := "ToneGraph", name := "levelOf", desc := "(I)I" } : Jvm.MethodName) ({ cls := "ToneGraph", name := "levelOf", desc := "(I)I" } : Jvm.MethodName)) ∈ zAll := zt4 (List.mem_of_getElem? (i := 152) (by decide +kernel)) rfl
theorem wcode_X6_levelOf : (Jvm.Cond.code ({ cls := "ToneGraph", name := "levelOf", desc := "(I)I" } : Jvm.MethodName) prog_1_method_25_code (2 : Nat) (Option.some Jvm.ClassFile.FieldType.int)) ∈ zAll := zt4 (List.mem_of_getElem? (i := 153) (by decide +kernel)) rfl
theorem wm_X6_214 : (Jvm.Cond.methodLink "ToneGraph" (214 : Nat) ({ cls := "ToneGraph$Voice", name := "level", desc := "()I" } : Jvm.MethodName)) ∈ zAll := zt4 (List.mem_of_getElem? (i := 154) (by decide +kernel)) rfl
theorem wm_L_204 : (Jvm.Cond.methodLink "ToneGraphLaw" (204 : Nat) ({ cls := "ToneGraphLaw", name := "phaseOf", desc := "(LToneGraph;I[J)I" } : Jvm.MethodName)) ∈ zAll := zt4 (List.mem_of_getElem? (i := 155) (by decide +kernel)) rfl
theorem ws_L_phaseOf : (Jvm.Cond.static ({ cls := "ToneGraphLaw", name := "phaseOf", desc := "(LToneGraph;I[J)I" } : Jvm.MethodName)) ∈ zAll := zt4 (List.mem_of_getElem? (i := 156) (by decide +kernel)) rfl
theorem wcode_L_phaseOf : (Jvm.Cond.codeWith ({ cls := "ToneGraphLaw", name := "phaseOf", desc := "(LToneGraph;I[J)I" } : Jvm.MethodName) method_23_code (4 : Nat) (Option.some Jvm.ClassFile.FieldType.int) [((0 : Nat), (9 : Nat), (12 : Nat), (31 : Nat)), ((0 : Nat), (9 : Nat), (15 : Nat), (15 : Nat))]) ∈ zAll := zt4 (List.mem_of_getElem? (i := 157) (by decide +kernel)) rfl
theorem wm_L_85 : (Jvm.Cond.methodLink "ToneGraphLaw" (85 : Nat) ({ cls := "ToneGraph", name := "phaseOf", desc := "(I)I" } : Jvm.MethodName)) ∈ zAll := zt4 (List.mem_of_getElem? (i := 158) (by decide +kernel)) rfl
theorem wi_X6_phaseOf : (Jvm.Cond.instanceMethod ({ cls := "ToneGraph", name := "phaseOf", desc := "(I)I" } : Jvm.MethodName)) ∈ zAll := zt4 (List.mem_of_getElem? (i := 159) (by decide +kernel)) rfl
theorem wv_X6_phaseOf : (Jvm.Cond.selects "ToneGraph" ({ cls := "ToneGraph", name := "phaseOf", desc := "(I)I" } : Jvm.MethodName) ({ cls := "ToneGraph", name := "phaseOf", desc := "(I)I" } : Jvm.MethodName)) ∈ zAll := zt4 (List.mem_of_getElem? (i := 160) (by decide +kernel)) rfl
theorem wcode_X6_phaseOf : (Jvm.Cond.code ({ cls := "ToneGraph", name := "phaseOf", desc := "(I)I" } : Jvm.MethodName) prog_1_method_26_code (2 : Nat) (Option.some Jvm.ClassFile.FieldType.int)) ∈ zAll := zt4 (List.mem_of_getElem? (i := 161) (by decide +kernel)) rfl
theorem wm_L_211 : (Jvm.Cond.methodLink "ToneGraphLaw" (211 : Nat) ({ cls := "ToneGraphLaw", name := "play", desc := "(LToneGraph;I[J)I" } : Jvm.MethodName)) ∈ zAll := zt4 (List.mem_of_getElem? (i := 162) (by decide +kernel)) rfl
theorem ws_L_play : (Jvm.Cond.static ({ cls := "ToneGraphLaw", name := "play", desc := "(LToneGraph;I[J)I" } : Jvm.MethodName)) ∈ zAll := zt4 (List.mem_of_getElem? (i := 163) (by decide +kernel)) rfl
theorem wcode_L_play : (Jvm.Cond.codeWith ({ cls := "ToneGraphLaw", name := "play", desc := "(LToneGraph;I[J)I" } : Jvm.MethodName) method_24_code (4 : Nat) (Option.some Jvm.ClassFile.FieldType.int) [((0 : Nat), (9 : Nat), (12 : Nat), (13 : Nat))]) ∈ zAll := zt4 (List.mem_of_getElem? (i := 164) (by decide +kernel)) rfl
theorem wm_L_88 : (Jvm.Cond.methodLink "ToneGraphLaw" (88 : Nat) ({ cls := "ToneGraph", name := "play", desc := "(I)I" } : Jvm.MethodName)) ∈ zAll := zt4 (List.mem_of_getElem? (i := 165) (by decide +kernel)) rfl
theorem wi_X6_play : (Jvm.Cond.instanceMethod ({ cls := "ToneGraph", name := "play", desc := "(I)I" } : Jvm.MethodName)) ∈ zAll := zt4 (List.mem_of_getElem? (i := 166) (by decide +kernel)) rfl
theorem wv_X6_play : (Jvm.Cond.selects "ToneGraph" ({ cls := "ToneGraph", name := "play", desc := "(I)I" } : Jvm.MethodName) ({ cls := "ToneGraph", name := "play", desc := "(I)I" } : Jvm.MethodName)) ∈ zAll := zt4 (List.mem_of_getElem? (i := 167) (by decide +kernel)) rfl
theorem wcode_X6_play : (Jvm.Cond.code ({ cls := "ToneGraph", name := "play", desc := "(I)I" } : Jvm.MethodName) prog_1_method_28_code (2 : Nat) (Option.some Jvm.ClassFile.FieldType.int)) ∈ zAll := zt4 (List.mem_of_getElem? (i := 168) (by decide +kernel)) rfl
theorem wm_L_218 : (Jvm.Cond.methodLink "ToneGraphLaw" (218 : Nat) ({ cls := "ToneGraphLaw", name := "ahead", desc := "(LToneGraph;I[J)I" } : Jvm.MethodName)) ∈ zAll := zt4 (List.mem_of_getElem? (i := 169) (by decide +kernel)) rfl
theorem ws_L_ahead : (Jvm.Cond.static ({ cls := "ToneGraphLaw", name := "ahead", desc := "(LToneGraph;I[J)I" } : Jvm.MethodName)) ∈ zAll := zt4 (List.mem_of_getElem? (i := 170) (by decide +kernel)) rfl
theorem wcode_L_ahead : (Jvm.Cond.codeWith ({ cls := "ToneGraphLaw", name := "ahead", desc := "(LToneGraph;I[J)I" } : Jvm.MethodName) method_25_code (4 : Nat) (Option.some Jvm.ClassFile.FieldType.int) [((0 : Nat), (9 : Nat), (12 : Nat), (13 : Nat))]) ∈ zAll := zt4 (List.mem_of_getElem? (i := 171) (by decide +kernel)) rfl
theorem wm_L_91 : (Jvm.Cond.methodLink "ToneGraphLaw" (91 : Nat) ({ cls := "ToneGraph", name := "ahead", desc := "(I)I" } : Jvm.MethodName)) ∈ zAll := zt4 (List.mem_of_getElem? (i := 172) (by decide +kernel)) rfl
theorem wi_X6_ahead : (Jvm.Cond.instanceMethod ({ cls := "ToneGraph", name := "ahead", desc := "(I)I" } : Jvm.MethodName)) ∈ zAll := zt4 (List.mem_of_getElem? (i := 173) (by decide +kernel)) rfl
theorem wv_X6_ahead : (Jvm.Cond.selects "ToneGraph" ({ cls := "ToneGraph", name := "ahead", desc := "(I)I" } : Jvm.MethodName) ({ cls := "ToneGraph", name := "ahead", desc := "(I)I" } : Jvm.MethodName)) ∈ zAll := zt4 (List.mem_of_getElem? (i := 174) (by decide +kernel)) rfl
theorem wcode_X6_ahead : (Jvm.Cond.code ({ cls := "ToneGraph", name := "ahead", desc := "(I)I" } : Jvm.MethodName) prog_1_method_30_code (2 : Nat) (Option.some Jvm.ClassFile.FieldType.int)) ∈ zAll := zt4 (List.mem_of_getElem? (i := 175) (by decide +kernel)) rfl
theorem wm_L_221 : (Jvm.Cond.methodLink "ToneGraphLaw" (221 : Nat) ({ cls := "ToneGraphLaw", name := "aheadByBlocks", desc := "(LToneGraph;II[J)I" } : Jvm.MethodName)) ∈ zAll := zt4 (List.mem_of_getElem? (i := 176) (by decide +kernel)) rfl
theorem ws_L_aheadByBlocks : (Jvm.Cond.static ({ cls := "ToneGraphLaw", name := "aheadByBlocks", desc := "(LToneGraph;II[J)I" } : Jvm.MethodName)) ∈ zAll := zt4 (List.mem_of_getElem? (i := 177) (by decide +kernel)) rfl
theorem wcode_L_aheadByBlocks : (Jvm.Cond.codeWith ({ cls := "ToneGraphLaw", name := "aheadByBlocks", desc := "(LToneGraph;II[J)I" } : Jvm.MethodName) method_26_code (5 : Nat) (Option.some Jvm.ClassFile.FieldType.int) [((0 : Nat), (10 : Nat), (13 : Nat), (13 : Nat))]) ∈ zAll := zt4 (List.mem_of_getElem? (i := 178) (by decide +kernel)) rfl
theorem wm_L_94 : (Jvm.Cond.methodLink "ToneGraphLaw" (94 : Nat) ({ cls := "ToneGraph", name := "aheadByBlocks", desc := "(II)I" } : Jvm.MethodName)) ∈ zAll := zt4 (List.mem_of_getElem? (i := 179) (by decide +kernel)) rfl
theorem wi_X6_aheadByBlocks : (Jvm.Cond.instanceMethod ({ cls := "ToneGraph", name := "aheadByBlocks", desc := "(II)I" } : Jvm.MethodName)) ∈ zAll := zt4 (List.mem_of_getElem? (i := 180) (by decide +kernel)) rfl
theorem wv_X6_aheadByBlocks : (Jvm.Cond.selects "ToneGraph" ({ cls := "ToneGraph", name := "aheadByBlocks", desc := "(II)I" } : Jvm.MethodName) ({ cls := "ToneGraph", name := "aheadByBlocks", desc := "(II)I" } : Jvm.MethodName)) ∈ zAll := zt4 (List.mem_of_getElem? (i := 181) (by decide +kernel)) rfl
theorem wcode_X6_aheadByBlocks : (Jvm.Cond.code ({ cls := "ToneGraph", name := "aheadByBlocks", desc := "(II)I" } : Jvm.MethodName) prog_1_method_31_code (3 : Nat) (Option.some Jvm.ClassFile.FieldType.int)) ∈ zAll := zt4 (List.mem_of_getElem? (i := 182) (by decide +kernel)) rfl
theorem wm_L_224 : (Jvm.Cond.methodLink "ToneGraphLaw" (224 : Nat) ({ cls := "ToneGraphLaw", name := "heard", desc := "(LToneGraph;I[J)I" } : Jvm.MethodName)) ∈ zAll := zt4 (List.mem_of_getElem? (i := 183) (by decide +kernel)) rfl
theorem ws_L_heard : (Jvm.Cond.static ({ cls := "ToneGraphLaw", name := "heard", desc := "(LToneGraph;I[J)I" } : Jvm.MethodName)) ∈ zAll := zt4 (List.mem_of_getElem? (i := 184) (by decide +kernel)) rfl
theorem wcode_L_heard : (Jvm.Cond.codeWith ({ cls := "ToneGraphLaw", name := "heard", desc := "(LToneGraph;I[J)I" } : Jvm.MethodName) method_27_code (4 : Nat) (Option.some Jvm.ClassFile.FieldType.int) [((0 : Nat), (9 : Nat), (12 : Nat), (13 : Nat)), ((0 : Nat), (9 : Nat), (15 : Nat), (38 : Nat))]) ∈ zAll := zt4 (List.mem_of_getElem? (i := 185) (by decide +kernel)) rfl
theorem wm_L_97 : (Jvm.Cond.methodLink "ToneGraphLaw" (97 : Nat) ({ cls := "ToneGraph", name := "heard", desc := "(I)I" } : Jvm.MethodName)) ∈ zAll := zt4 (List.mem_of_getElem? (i := 186) (by decide +kernel)) rfl
theorem wi_X6_heard : (Jvm.Cond.instanceMethod ({ cls := "ToneGraph", name := "heard", desc := "(I)I" } : Jvm.MethodName)) ∈ zAll := zt4 (List.mem_of_getElem? (i := 187) (by decide +kernel)) rfl
theorem wv_X6_heard : (Jvm.Cond.selects "ToneGraph" ({ cls := "ToneGraph", name := "heard", desc := "(I)I" } : Jvm.MethodName) ({ cls := "ToneGraph", name := "heard", desc := "(I)I" } : Jvm.MethodName)) ∈ zAll := zt4 (List.mem_of_getElem? (i := 188) (by decide +kernel)) rfl
theorem wcode_X6_heard : (Jvm.Cond.code ({ cls := "ToneGraph", name := "heard", desc := "(I)I" } : Jvm.MethodName) prog_1_method_32_code (2 : Nat) (Option.some Jvm.ClassFile.FieldType.int)) ∈ zAll := zt4 (List.mem_of_getElem? (i := 189) (by decide +kernel)) rfl
theorem wm_X6_233 : (Jvm.Cond.methodLink "ToneGraph" (233 : Nat) ({ cls := "ToneGraph$Meter", name := "recall", desc := "(I)I" } : Jvm.MethodName)) ∈ zAll := zt4 (List.mem_of_getElem? (i := 191) (by decide +kernel)) rfl
theorem wi_X3_recall : (Jvm.Cond.instanceMethod ({ cls := "ToneGraph$Meter", name := "recall", desc := "(I)I" } : Jvm.MethodName)) ∈ zAll := zt4 (List.mem_of_getElem? (i := 192) (by decide +kernel)) rfl
theorem wv_X3_recall : (Jvm.Cond.selects "ToneGraph$Meter" ({ cls := "ToneGraph$Meter", name := "recall", desc := "(I)I" } : Jvm.MethodName) ({ cls := "ToneGraph$Meter", name := "recall", desc := "(I)I" } : Jvm.MethodName)) ∈ zAll := zt4 (List.mem_of_getElem? (i := 193) (by decide +kernel)) rfl
theorem wcode_X3_recall : (Jvm.Cond.code ({ cls := "ToneGraph$Meter", name := "recall", desc := "(I)I" } : Jvm.MethodName) prog_5_method_3_code (2 : Nat) (Option.some Jvm.ClassFile.FieldType.int)) ∈ zAll := zt4 (List.mem_of_getElem? (i := 194) (by decide +kernel)) rfl
theorem wm_L_227 : (Jvm.Cond.methodLink "ToneGraphLaw" (227 : Nat) ({ cls := "ToneGraphLaw", name := "outputOf", desc := "(LToneGraph;I[J)I" } : Jvm.MethodName)) ∈ zAll := zt4 (List.mem_of_getElem? (i := 195) (by decide +kernel)) rfl
theorem ws_L_outputOf : (Jvm.Cond.static ({ cls := "ToneGraphLaw", name := "outputOf", desc := "(LToneGraph;I[J)I" } : Jvm.MethodName)) ∈ zAll := zt4 (List.mem_of_getElem? (i := 196) (by decide +kernel)) rfl
theorem wcode_L_outputOf : (Jvm.Cond.codeWith ({ cls := "ToneGraphLaw", name := "outputOf", desc := "(LToneGraph;I[J)I" } : Jvm.MethodName) method_28_code (4 : Nat) (Option.some Jvm.ClassFile.FieldType.int) [((0 : Nat), (9 : Nat), (12 : Nat), (31 : Nat))]) ∈ zAll := zt4 (List.mem_of_getElem? (i := 197) (by decide +kernel)) rfl
theorem wm_L_100 : (Jvm.Cond.methodLink "ToneGraphLaw" (100 : Nat) ({ cls := "ToneGraph", name := "outputOf", desc := "(I)I" } : Jvm.MethodName)) ∈ zAll := zt4 (List.mem_of_getElem? (i := 198) (by decide +kernel)) rfl
theorem wi_X6_outputOf : (Jvm.Cond.instanceMethod ({ cls := "ToneGraph", name := "outputOf", desc := "(I)I" } : Jvm.MethodName)) ∈ zAll := zt4 (List.mem_of_getElem? (i := 199) (by decide +kernel)) rfl
theorem wv_X6_outputOf : (Jvm.Cond.selects "ToneGraph" ({ cls := "ToneGraph", name := "outputOf", desc := "(I)I" } : Jvm.MethodName) ({ cls := "ToneGraph", name := "outputOf", desc := "(I)I" } : Jvm.MethodName)) ∈ zAll := zt4 (List.mem_of_getElem? (i := 200) (by decide +kernel)) rfl
theorem wcode_X6_outputOf : (Jvm.Cond.code ({ cls := "ToneGraph", name := "outputOf", desc := "(I)I" } : Jvm.MethodName) prog_1_method_33_code (2 : Nat) (Option.some Jvm.ClassFile.FieldType.int)) ∈ zAll := zt4 (List.mem_of_getElem? (i := 201) (by decide +kernel)) rfl
theorem wm_L_243 : (Jvm.Cond.methodLink "ToneGraphLaw" (243 : Nat) ({ cls := "ToneGraphLaw", name := "meanEnergy", desc := "(LToneGraph;[D)I" } : Jvm.MethodName)) ∈ zAll := zt4 (List.mem_of_getElem? (i := 202) (by decide +kernel)) rfl
theorem ws_L_meanEnergy : (Jvm.Cond.static ({ cls := "ToneGraphLaw", name := "meanEnergy", desc := "(LToneGraph;[D)I" } : Jvm.MethodName)) ∈ zAll := zt4 (List.mem_of_getElem? (i := 203) (by decide +kernel)) rfl
theorem wcode_L_meanEnergy : (Jvm.Cond.codeWith ({ cls := "ToneGraphLaw", name := "meanEnergy", desc := "(LToneGraph;[D)I" } : Jvm.MethodName) method_29_code (3 : Nat) (Option.some Jvm.ClassFile.FieldType.int) [((0 : Nat), (7 : Nat), (10 : Nat), (107 : Nat))]) ∈ zAll := zt4 (List.mem_of_getElem? (i := 204) (by decide +kernel)) rfl
theorem wc_L_107 : (Jvm.Cond.classLink "ToneGraphLaw" (107 : Nat) "java/lang/ArithmeticException") ∈ zAll := zt4 (List.mem_of_getElem? (i := 205) (by decide +kernel)) rfl
theorem wt_ArithmeticException : (Jvm.Cond.instantiable "java/lang/ArithmeticException" (6 : Nat)) ∈ zAll := zt4 (List.mem_of_getElem? (i := 206) (by decide +kernel)) rfl
theorem wi_ArithmeticException_init : (Jvm.Cond.instanceMethod ({ cls := "java/lang/ArithmeticException", name := "<init>", desc := "(Ljava/lang/String;)V" } : Jvm.MethodName)) ∈ zAll := zt4 (List.mem_of_getElem? (i := 207) (by decide +kernel)) rfl
theorem wcode_ArithmeticException_init : (Jvm.Cond.code ({ cls := "java/lang/ArithmeticException", name := "<init>", desc := "(Ljava/lang/String;)V" } : Jvm.MethodName) prog_11_method_2_code (2 : Nat) (Option.none : Option Jvm.ClassFile.FieldType)) ∈ zAll := zt4 (List.mem_of_getElem? (i := 208) (by decide +kernel)) rfl
theorem wm_ArithmeticException_7 : (Jvm.Cond.methodLink "java/lang/ArithmeticException" (7 : Nat) ({ cls := "java/lang/RuntimeException", name := "<init>", desc := "(Ljava/lang/String;)V" } : Jvm.MethodName)) ∈ zAll := zt4 (List.mem_of_getElem? (i := 209) (by decide +kernel)) rfl
theorem wm_L_103 : (Jvm.Cond.methodLink "ToneGraphLaw" (103 : Nat) ({ cls := "ToneGraph", name := "meanEnergy", desc := "()D" } : Jvm.MethodName)) ∈ zAll := zt4 (List.mem_of_getElem? (i := 219) (by decide +kernel)) rfl
theorem wi_X6_meanEnergy : (Jvm.Cond.instanceMethod ({ cls := "ToneGraph", name := "meanEnergy", desc := "()D" } : Jvm.MethodName)) ∈ zAll := zt4 (List.mem_of_getElem? (i := 220) (by decide +kernel)) rfl
theorem wv_X6_meanEnergy : (Jvm.Cond.selects "ToneGraph" ({ cls := "ToneGraph", name := "meanEnergy", desc := "()D" } : Jvm.MethodName) ({ cls := "ToneGraph", name := "meanEnergy", desc := "()D" } : Jvm.MethodName)) ∈ zAll := zt4 (List.mem_of_getElem? (i := 221) (by decide +kernel)) rfl
theorem wcode_X6_meanEnergy : (Jvm.Cond.code ({ cls := "ToneGraph", name := "meanEnergy", desc := "()D" } : Jvm.MethodName) prog_1_method_37_code (1 : Nat) (Option.some Jvm.ClassFile.FieldType.double)) ∈ zAll := zt4 (List.mem_of_getElem? (i := 222) (by decide +kernel)) rfl
theorem wm_X6_246 : (Jvm.Cond.methodLink "ToneGraph" (246 : Nat) ({ cls := "ToneGraph", name := "refuseSilence", desc := "()V" } : Jvm.MethodName)) ∈ zAll := zt4 (List.mem_of_getElem? (i := 223) (by decide +kernel)) rfl
theorem wi_X6_refuseSilence : (Jvm.Cond.instanceMethod ({ cls := "ToneGraph", name := "refuseSilence", desc := "()V" } : Jvm.MethodName)) ∈ zAll := zt4 (List.mem_of_getElem? (i := 225) (by decide +kernel)) rfl
theorem wcode_X6_refuseSilence : (Jvm.Cond.code ({ cls := "ToneGraph", name := "refuseSilence", desc := "()V" } : Jvm.MethodName) prog_1_method_49_code (1 : Nat) (Option.none : Option Jvm.ClassFile.FieldType)) ∈ zAll := zt4 (List.mem_of_getElem? (i := 226) (by decide +kernel)) rfl
theorem wc_X6_286 : (Jvm.Cond.classLink "ToneGraph" (286 : Nat) "java/lang/ArithmeticException") ∈ zAll := zt4 (List.mem_of_getElem? (i := 227) (by decide +kernel)) rfl
theorem wm_X6_290 : (Jvm.Cond.methodLink "ToneGraph" (290 : Nat) ({ cls := "java/lang/ArithmeticException", name := "<init>", desc := "(Ljava/lang/String;)V" } : Jvm.MethodName)) ∈ zAll := zt4 (List.mem_of_getElem? (i := 229) (by decide +kernel)) rfl
theorem wm_L_247 : (Jvm.Cond.methodLink "ToneGraphLaw" (247 : Nat) ({ cls := "ToneGraphLaw", name := "quietShare", desc := "(LToneGraph;[D)I" } : Jvm.MethodName)) ∈ zAll := zt4 (List.mem_of_getElem? (i := 230) (by decide +kernel)) rfl
theorem ws_L_quietShare : (Jvm.Cond.static ({ cls := "ToneGraphLaw", name := "quietShare", desc := "(LToneGraph;[D)I" } : Jvm.MethodName)) ∈ zAll := zt4 (List.mem_of_getElem? (i := 231) (by decide +kernel)) rfl
theorem wcode_L_quietShare : (Jvm.Cond.codeWith ({ cls := "ToneGraphLaw", name := "quietShare", desc := "(LToneGraph;[D)I" } : Jvm.MethodName) method_30_code (3 : Nat) (Option.some Jvm.ClassFile.FieldType.int) [((0 : Nat), (8 : Nat), (11 : Nat), (107 : Nat))]) ∈ zAll := zt4 (List.mem_of_getElem? (i := 232) (by decide +kernel)) rfl
theorem wm_L_109 : (Jvm.Cond.methodLink "ToneGraphLaw" (109 : Nat) ({ cls := "ToneGraph", name := "quietShare", desc := "()F" } : Jvm.MethodName)) ∈ zAll := zt4 (List.mem_of_getElem? (i := 233) (by decide +kernel)) rfl
theorem wi_X6_quietShare : (Jvm.Cond.instanceMethod ({ cls := "ToneGraph", name := "quietShare", desc := "()F" } : Jvm.MethodName)) ∈ zAll := zt4 (List.mem_of_getElem? (i := 234) (by decide +kernel)) rfl
theorem wv_X6_quietShare : (Jvm.Cond.selects "ToneGraph" ({ cls := "ToneGraph", name := "quietShare", desc := "()F" } : Jvm.MethodName) ({ cls := "ToneGraph", name := "quietShare", desc := "()F" } : Jvm.MethodName)) ∈ zAll := zt4 (List.mem_of_getElem? (i := 235) (by decide +kernel)) rfl
theorem wcode_X6_quietShare : (Jvm.Cond.code ({ cls := "ToneGraph", name := "quietShare", desc := "()F" } : Jvm.MethodName) prog_1_method_38_code (1 : Nat) (Option.some Jvm.ClassFile.FieldType.float)) ∈ zAll := zt4 (List.mem_of_getElem? (i := 236) (by decide +kernel)) rfl
theorem wc_L_114 : (Jvm.Cond.classLink "ToneGraphLaw" (114 : Nat) "ToneGraphModel") ∈ zAll := zt4 (List.mem_of_getElem? (i := 237) (by decide +kernel)) rfl
theorem wt_X7 : (Jvm.Cond.instantiable "ToneGraphModel" (26 : Nat)) ∈ zAll := zt4 (List.mem_of_getElem? (i := 238) (by decide +kernel)) rfl
theorem wm_L_116 : (Jvm.Cond.methodLink "ToneGraphLaw" (116 : Nat) ({ cls := "ToneGraphModel", name := "<init>", desc := "()V" } : Jvm.MethodName)) ∈ zAll := zt4 (List.mem_of_getElem? (i := 239) (by decide +kernel)) rfl
theorem zt5 {w : Cond} (h : w ∈ tables_1_5) (g : goodWord w = true) : w ∈ zAll := List.mem_filter.mpr ⟨List.mem_append_right _ (List.mem_append_right _ (List.mem_append_right _ (List.mem_append_right _ (List.mem_append_right _ (List.mem_append_left _ h))))), g⟩
theorem wi_X7_init : (Jvm.Cond.instanceMethod ({ cls := "ToneGraphModel", name := "<init>", desc := "()V" } : Jvm.MethodName)) ∈ zAll := zt5 (List.mem_of_getElem? (i := 0) (by decide +kernel)) rfl
theorem wcode_X7_init : (Jvm.Cond.code ({ cls := "ToneGraphModel", name := "<init>", desc := "()V" } : Jvm.MethodName) prog_9_method_1_code (1 : Nat) (Option.none : Option Jvm.ClassFile.FieldType)) ∈ zAll := zt5 (List.mem_of_getElem? (i := 1) (by decide +kernel)) rfl
theorem wm_X7_1 : (Jvm.Cond.methodLink "ToneGraphModel" (1 : Nat) ({ cls := "java/lang/Object", name := "<init>", desc := "()V" } : Jvm.MethodName)) ∈ zAll := zt5 (List.mem_of_getElem? (i := 2) (by decide +kernel)) rfl
theorem wm_X7_91 : (Jvm.Cond.methodLink "ToneGraphModel" (91 : Nat) ({ cls := "ToneGraphModel", name := "lays", desc := "()V" } : Jvm.MethodName)) ∈ zAll := zt5 (List.mem_of_getElem? (i := 3) (by decide +kernel)) rfl
theorem wi_X7_lays : (Jvm.Cond.instanceMethod ({ cls := "ToneGraphModel", name := "lays", desc := "()V" } : Jvm.MethodName)) ∈ zAll := zt5 (List.mem_of_getElem? (i := 5) (by decide +kernel)) rfl
theorem wcode_X7_lays : (Jvm.Cond.code ({ cls := "ToneGraphModel", name := "lays", desc := "()V" } : Jvm.MethodName) prog_9_method_20_code (3 : Nat) (Option.none : Option Jvm.ClassFile.FieldType)) ∈ zAll := zt5 (List.mem_of_getElem? (i := 6) (by decide +kernel)) rfl
theorem wm_X7_118 : (Jvm.Cond.methodLink "ToneGraphModel" (118 : Nat) ({ cls := "ToneGraphModel", name := "canCome", desc := "(I)Z" } : Jvm.MethodName)) ∈ zAll := zt5 (List.mem_of_getElem? (i := 7) (by decide +kernel)) rfl
theorem wi_X7_canCome : (Jvm.Cond.instanceMethod ({ cls := "ToneGraphModel", name := "canCome", desc := "(I)Z" } : Jvm.MethodName)) ∈ zAll := zt5 (List.mem_of_getElem? (i := 9) (by decide +kernel)) rfl
theorem wcode_X7_canCome : (Jvm.Cond.code ({ cls := "ToneGraphModel", name := "canCome", desc := "(I)Z" } : Jvm.MethodName) prog_9_method_19_code (3 : Nat) (Option.some Jvm.ClassFile.FieldType.boolean)) ∈ zAll := zt5 (List.mem_of_getElem? (i := 10) (by decide +kernel)) rfl
theorem wf_X7_7 : (Jvm.Cond.fieldLink "ToneGraphModel" (7 : Nat) "ToneGraphModel" "now" "[I") ∈ zAll := zt5 (List.mem_of_getElem? (i := 11) (by decide +kernel)) rfl
theorem wf_X7_13 : (Jvm.Cond.fieldLink "ToneGraphModel" (13 : Nat) "ToneGraphModel" "spare" "[I") ∈ zAll := zt5 (List.mem_of_getElem? (i := 12) (by decide +kernel)) rfl
theorem wf_X7_16 : (Jvm.Cond.fieldLink "ToneGraphModel" (16 : Nat) "ToneGraphModel" "kinds" "[I") ∈ zAll := zt5 (List.mem_of_getElem? (i := 13) (by decide +kernel)) rfl
theorem wf_X7_19 : (Jvm.Cond.fieldLink "ToneGraphModel" (19 : Nat) "ToneGraphModel" "firsts" "[I") ∈ zAll := zt5 (List.mem_of_getElem? (i := 14) (by decide +kernel)) rfl
theorem wf_X7_22 : (Jvm.Cond.fieldLink "ToneGraphModel" (22 : Nat) "ToneGraphModel" "seconds" "[I") ∈ zAll := zt5 (List.mem_of_getElem? (i := 15) (by decide +kernel)) rfl
theorem wf_X7_25 : (Jvm.Cond.fieldLink "ToneGraphModel" (25 : Nat) "ToneGraphModel" "thirds" "[I") ∈ zAll := zt5 (List.mem_of_getElem? (i := 16) (by decide +kernel)) rfl
theorem wf_X7_28 : (Jvm.Cond.fieldLink "ToneGraphModel" (28 : Nat) "ToneGraphModel" "sources" "[I") ∈ zAll := zt5 (List.mem_of_getElem? (i := 17) (by decide +kernel)) rfl
theorem wf_X7_31 : (Jvm.Cond.fieldLink "ToneGraphModel" (31 : Nat) "ToneGraphModel" "percents" "[I") ∈ zAll := zt5 (List.mem_of_getElem? (i := 18) (by decide +kernel)) rfl
theorem wf_X7_34 : (Jvm.Cond.fieldLink "ToneGraphModel" (34 : Nat) "ToneGraphModel" "counts" "[I") ∈ zAll := zt5 (List.mem_of_getElem? (i := 19) (by decide +kernel)) rfl
theorem wf_X7_37 : (Jvm.Cond.fieldLink "ToneGraphModel" (37 : Nat) "ToneGraphModel" "order" "[I") ∈ zAll := zt5 (List.mem_of_getElem? (i := 20) (by decide +kernel)) rfl
theorem wf_X7_40 : (Jvm.Cond.fieldLink "ToneGraphModel" (40 : Nat) "ToneGraphModel" "heard" "[I") ∈ zAll := zt5 (List.mem_of_getElem? (i := 21) (by decide +kernel)) rfl
theorem wf_X7_43 : (Jvm.Cond.fieldLink "ToneGraphModel" (43 : Nat) "ToneGraphModel" "isIn" "[Z") ∈ zAll := zt5 (List.mem_of_getElem? (i := 22) (by decide +kernel)) rfl
theorem wf_X7_47 : (Jvm.Cond.fieldLink "ToneGraphModel" (47 : Nat) "ToneGraphModel" "thrown" "I") ∈ zAll := zt5 (List.mem_of_getElem? (i := 23) (by decide +kernel)) rfl
theorem wf_X7_51 : (Jvm.Cond.fieldLink "ToneGraphModel" (51 : Nat) "ToneGraphModel" "nodes" "I") ∈ zAll := zt5 (List.mem_of_getElem? (i := 24) (by decide +kernel)) rfl
theorem wf_X7_54 : (Jvm.Cond.fieldLink "ToneGraphModel" (54 : Nat) "ToneGraphModel" "output" "I") ∈ zAll := zt5 (List.mem_of_getElem? (i := 25) (by decide +kernel)) rfl
theorem wf_X7_57 : (Jvm.Cond.fieldLink "ToneGraphModel" (57 : Nat) "ToneGraphModel" "wave" "I") ∈ zAll := zt5 (List.mem_of_getElem? (i := 26) (by decide +kernel)) rfl
theorem wf_X7_60 : (Jvm.Cond.fieldLink "ToneGraphModel" (60 : Nat) "ToneGraphModel" "attack" "I") ∈ zAll := zt5 (List.mem_of_getElem? (i := 27) (by decide +kernel)) rfl
theorem wf_X7_63 : (Jvm.Cond.fieldLink "ToneGraphModel" (63 : Nat) "ToneGraphModel" "decay" "I") ∈ zAll := zt5 (List.mem_of_getElem? (i := 28) (by decide +kernel)) rfl
theorem wf_X7_66 : (Jvm.Cond.fieldLink "ToneGraphModel" (66 : Nat) "ToneGraphModel" "sustain" "I") ∈ zAll := zt5 (List.mem_of_getElem? (i := 29) (by decide +kernel)) rfl
theorem wf_X7_69 : (Jvm.Cond.fieldLink "ToneGraphModel" (69 : Nat) "ToneGraphModel" "release" "I") ∈ zAll := zt5 (List.mem_of_getElem? (i := 30) (by decide +kernel)) rfl
theorem wf_X7_72 : (Jvm.Cond.fieldLink "ToneGraphModel" (72 : Nat) "ToneGraphModel" "stolen" "I") ∈ zAll := zt5 (List.mem_of_getElem? (i := 31) (by decide +kernel)) rfl
theorem wf_X7_75 : (Jvm.Cond.fieldLink "ToneGraphModel" (75 : Nat) "ToneGraphModel" "calls" "I") ∈ zAll := zt5 (List.mem_of_getElem? (i := 32) (by decide +kernel)) rfl
theorem wf_X7_78 : (Jvm.Cond.fieldLink "ToneGraphModel" (78 : Nat) "ToneGraphModel" "time" "I") ∈ zAll := zt5 (List.mem_of_getElem? (i := 33) (by decide +kernel)) rfl
theorem wf_X7_81 : (Jvm.Cond.fieldLink "ToneGraphModel" (81 : Nat) "ToneGraphModel" "greatest" "I") ∈ zAll := zt5 (List.mem_of_getElem? (i := 34) (by decide +kernel)) rfl
theorem wf_X7_84 : (Jvm.Cond.fieldLink "ToneGraphModel" (84 : Nat) "ToneGraphModel" "quiet" "I") ∈ zAll := zt5 (List.mem_of_getElem? (i := 35) (by decide +kernel)) rfl
theorem wf_X7_87 : (Jvm.Cond.fieldLink "ToneGraphModel" (87 : Nat) "ToneGraphModel" "energy" "J") ∈ zAll := zt5 (List.mem_of_getElem? (i := 36) (by decide +kernel)) rfl
theorem wa_boolean : (Jvm.Cond.arrayClass Jvm.ClassFile.FieldType.boolean) ∈ zAll := zt5 (List.mem_of_getElem? (i := 90) (by decide +kernel)) rfl
theorem wm_L_123 : (Jvm.Cond.methodLink "ToneGraphLaw" (123 : Nat) ({ cls := "ToneGraphModel", name := "thrown", desc := "()I" } : Jvm.MethodName)) ∈ zAll := zt5 (List.mem_of_getElem? (i := 91) (by decide +kernel)) rfl
theorem wi_X7_thrown : (Jvm.Cond.instanceMethod ({ cls := "ToneGraphModel", name := "thrown", desc := "()I" } : Jvm.MethodName)) ∈ zAll := zt5 (List.mem_of_getElem? (i := 92) (by decide +kernel)) rfl
theorem wv_X7_thrown : (Jvm.Cond.selects "ToneGraphModel" ({ cls := "ToneGraphModel", name := "thrown", desc := "()I" } : Jvm.MethodName) ({ cls := "ToneGraphModel", name := "thrown", desc := "()I" } : Jvm.MethodName)) ∈ zAll := zt5 (List.mem_of_getElem? (i := 93) (by decide +kernel)) rfl
theorem wcode_X7_thrown : (Jvm.Cond.code ({ cls := "ToneGraphModel", name := "thrown", desc := "()I" } : Jvm.MethodName) prog_9_method_2_code (1 : Nat) (Option.some Jvm.ClassFile.FieldType.int)) ∈ zAll := zt5 (List.mem_of_getElem? (i := 94) (by decide +kernel)) rfl
theorem wm_L_122 : (Jvm.Cond.methodLink "ToneGraphLaw" (122 : Nat) ({ cls := "ToneGraphModel", name := "addGain", desc := "(I)I" } : Jvm.MethodName)) ∈ zAll := zt5 (List.mem_of_getElem? (i := 95) (by decide +kernel)) rfl
theorem wi_X7_addGain : (Jvm.Cond.instanceMethod ({ cls := "ToneGraphModel", name := "addGain", desc := "(I)I" } : Jvm.MethodName)) ∈ zAll := zt5 (List.mem_of_getElem? (i := 96) (by decide +kernel)) rfl
theorem wv_X7_addGain : (Jvm.Cond.selects "ToneGraphModel" ({ cls := "ToneGraphModel", name := "addGain", desc := "(I)I" } : Jvm.MethodName) ({ cls := "ToneGraphModel", name := "addGain", desc := "(I)I" } : Jvm.MethodName)) ∈ zAll := zt5 (List.mem_of_getElem? (i := 97) (by decide +kernel)) rfl
theorem wcode_X7_addGain : (Jvm.Cond.code ({ cls := "ToneGraphModel", name := "addGain", desc := "(I)I" } : Jvm.MethodName) prog_9_method_11_code (2 : Nat) (Option.some Jvm.ClassFile.FieldType.int)) ∈ zAll := zt5 (List.mem_of_getElem? (i := 98) (by decide +kernel)) rfl
theorem wm_X7_94 : (Jvm.Cond.methodLink "ToneGraphModel" (94 : Nat) ({ cls := "ToneGraphModel", name := "in", desc := "(III)Z" } : Jvm.MethodName)) ∈ zAll := zt5 (List.mem_of_getElem? (i := 99) (by decide +kernel)) rfl
theorem ws_X7_in : (Jvm.Cond.static ({ cls := "ToneGraphModel", name := "in", desc := "(III)Z" } : Jvm.MethodName)) ∈ zAll := zt5 (List.mem_of_getElem? (i := 100) (by decide +kernel)) rfl
theorem wcode_X7_in : (Jvm.Cond.code ({ cls := "ToneGraphModel", name := "in", desc := "(III)Z" } : Jvm.MethodName) prog_9_method_3_code (3 : Nat) (Option.some Jvm.ClassFile.FieldType.boolean)) ∈ zAll := zt5 (List.mem_of_getElem? (i := 101) (by decide +kernel)) rfl
theorem wm_X7_98 : (Jvm.Cond.methodLink "ToneGraphModel" (98 : Nat) ({ cls := "ToneGraphModel", name := "isFull", desc := "(Z)Z" } : Jvm.MethodName)) ∈ zAll := zt5 (List.mem_of_getElem? (i := 102) (by decide +kernel)) rfl
theorem wi_X7_isFull : (Jvm.Cond.instanceMethod ({ cls := "ToneGraphModel", name := "isFull", desc := "(Z)Z" } : Jvm.MethodName)) ∈ zAll := zt5 (List.mem_of_getElem? (i := 104) (by decide +kernel)) rfl
theorem wcode_X7_isFull : (Jvm.Cond.code ({ cls := "ToneGraphModel", name := "isFull", desc := "(Z)Z" } : Jvm.MethodName) prog_9_method_10_code (2 : Nat) (Option.some Jvm.ClassFile.FieldType.boolean)) ∈ zAll := zt5 (List.mem_of_getElem? (i := 105) (by decide +kernel)) rfl
theorem wm_X7_102 : (Jvm.Cond.methodLink "ToneGraphModel" (102 : Nat) ({ cls := "ToneGraphModel", name := "adds", desc := "(IIII)I" } : Jvm.MethodName)) ∈ zAll := zt5 (List.mem_of_getElem? (i := 106) (by decide +kernel)) rfl
theorem wi_X7_adds : (Jvm.Cond.instanceMethod ({ cls := "ToneGraphModel", name := "adds", desc := "(IIII)I" } : Jvm.MethodName)) ∈ zAll := zt5 (List.mem_of_getElem? (i := 108) (by decide +kernel)) rfl
theorem wcode_X7_adds : (Jvm.Cond.code ({ cls := "ToneGraphModel", name := "adds", desc := "(IIII)I" } : Jvm.MethodName) prog_9_method_9_code (5 : Nat) (Option.some Jvm.ClassFile.FieldType.int)) ∈ zAll := zt5 (List.mem_of_getElem? (i := 109) (by decide +kernel)) rfl
theorem wm_L_130 : (Jvm.Cond.methodLink "ToneGraphLaw" (130 : Nat) ({ cls := "ToneGraphModel", name := "addDelay", desc := "(II)I" } : Jvm.MethodName)) ∈ zAll := zt5 (List.mem_of_getElem? (i := 110) (by decide +kernel)) rfl
theorem wi_X7_addDelay : (Jvm.Cond.instanceMethod ({ cls := "ToneGraphModel", name := "addDelay", desc := "(II)I" } : Jvm.MethodName)) ∈ zAll := zt5 (List.mem_of_getElem? (i := 111) (by decide +kernel)) rfl
theorem wv_X7_addDelay : (Jvm.Cond.selects "ToneGraphModel" ({ cls := "ToneGraphModel", name := "addDelay", desc := "(II)I" } : Jvm.MethodName) ({ cls := "ToneGraphModel", name := "addDelay", desc := "(II)I" } : Jvm.MethodName)) ∈ zAll := zt5 (List.mem_of_getElem? (i := 112) (by decide +kernel)) rfl
theorem wcode_X7_addDelay : (Jvm.Cond.code ({ cls := "ToneGraphModel", name := "addDelay", desc := "(II)I" } : Jvm.MethodName) prog_9_method_12_code (3 : Nat) (Option.some Jvm.ClassFile.FieldType.int)) ∈ zAll := zt5 (List.mem_of_getElem? (i := 113) (by decide +kernel)) rfl
theorem wm_L_134 : (Jvm.Cond.methodLink "ToneGraphLaw" (134 : Nat) ({ cls := "ToneGraphModel", name := "addFilter", desc := "(III)I" } : Jvm.MethodName)) ∈ zAll := zt5 (List.mem_of_getElem? (i := 114) (by decide +kernel)) rfl
theorem wi_X7_addFilter : (Jvm.Cond.instanceMethod ({ cls := "ToneGraphModel", name := "addFilter", desc := "(III)I" } : Jvm.MethodName)) ∈ zAll := zt5 (List.mem_of_getElem? (i := 115) (by decide +kernel)) rfl
theorem wv_X7_addFilter : (Jvm.Cond.selects "ToneGraphModel" ({ cls := "ToneGraphModel", name := "addFilter", desc := "(III)I" } : Jvm.MethodName) ({ cls := "ToneGraphModel", name := "addFilter", desc := "(III)I" } : Jvm.MethodName)) ∈ zAll := zt5 (List.mem_of_getElem? (i := 116) (by decide +kernel)) rfl
theorem wcode_X7_addFilter : (Jvm.Cond.code ({ cls := "ToneGraphModel", name := "addFilter", desc := "(III)I" } : Jvm.MethodName) prog_9_method_13_code (4 : Nat) (Option.some Jvm.ClassFile.FieldType.int)) ∈ zAll := zt5 (List.mem_of_getElem? (i := 117) (by decide +kernel)) rfl
theorem wm_L_137 : (Jvm.Cond.methodLink "ToneGraphLaw" (137 : Nat) ({ cls := "ToneGraphModel", name := "addBus", desc := "(I)I" } : Jvm.MethodName)) ∈ zAll := zt5 (List.mem_of_getElem? (i := 118) (by decide +kernel)) rfl
theorem wi_X7_addBus : (Jvm.Cond.instanceMethod ({ cls := "ToneGraphModel", name := "addBus", desc := "(I)I" } : Jvm.MethodName)) ∈ zAll := zt5 (List.mem_of_getElem? (i := 119) (by decide +kernel)) rfl
theorem wv_X7_addBus : (Jvm.Cond.selects "ToneGraphModel" ({ cls := "ToneGraphModel", name := "addBus", desc := "(I)I" } : Jvm.MethodName) ({ cls := "ToneGraphModel", name := "addBus", desc := "(I)I" } : Jvm.MethodName)) ∈ zAll := zt5 (List.mem_of_getElem? (i := 120) (by decide +kernel)) rfl
theorem wcode_X7_addBus : (Jvm.Cond.code ({ cls := "ToneGraphModel", name := "addBus", desc := "(I)I" } : Jvm.MethodName) prog_9_method_14_code (2 : Nat) (Option.some Jvm.ClassFile.FieldType.int)) ∈ zAll := zt5 (List.mem_of_getElem? (i := 121) (by decide +kernel)) rfl
theorem wm_L_140 : (Jvm.Cond.methodLink "ToneGraphLaw" (140 : Nat) ({ cls := "ToneGraphModel", name := "connect", desc := "(III)I" } : Jvm.MethodName)) ∈ zAll := zt5 (List.mem_of_getElem? (i := 122) (by decide +kernel)) rfl
theorem wi_X7_connect : (Jvm.Cond.instanceMethod ({ cls := "ToneGraphModel", name := "connect", desc := "(III)I" } : Jvm.MethodName)) ∈ zAll := zt5 (List.mem_of_getElem? (i := 123) (by decide +kernel)) rfl
theorem wv_X7_connect : (Jvm.Cond.selects "ToneGraphModel" ({ cls := "ToneGraphModel", name := "connect", desc := "(III)I" } : Jvm.MethodName) ({ cls := "ToneGraphModel", name := "connect", desc := "(III)I" } : Jvm.MethodName)) ∈ zAll := zt5 (List.mem_of_getElem? (i := 124) (by decide +kernel)) rfl
theorem wcode_X7_connect : (Jvm.Cond.code ({ cls := "ToneGraphModel", name := "connect", desc := "(III)I" } : Jvm.MethodName) prog_9_method_17_code (4 : Nat) (Option.some Jvm.ClassFile.FieldType.int)) ∈ zAll := zt5 (List.mem_of_getElem? (i := 125) (by decide +kernel)) rfl
theorem wm_X7_110 : (Jvm.Cond.methodLink "ToneGraphModel" (110 : Nat) ({ cls := "ToneGraphModel", name := "isNode", desc := "(I)Z" } : Jvm.MethodName)) ∈ zAll := zt5 (List.mem_of_getElem? (i := 126) (by decide +kernel)) rfl
theorem wi_X7_isNode : (Jvm.Cond.instanceMethod ({ cls := "ToneGraphModel", name := "isNode", desc := "(I)Z" } : Jvm.MethodName)) ∈ zAll := zt5 (List.mem_of_getElem? (i := 128) (by decide +kernel)) rfl
theorem wcode_X7_isNode : (Jvm.Cond.code ({ cls := "ToneGraphModel", name := "isNode", desc := "(I)Z" } : Jvm.MethodName) prog_9_method_6_code (2 : Nat) (Option.some Jvm.ClassFile.FieldType.boolean)) ∈ zAll := zt5 (List.mem_of_getElem? (i := 129) (by decide +kernel)) rfl
theorem wm_X7_106 : (Jvm.Cond.methodLink "ToneGraphModel" (106 : Nat) ({ cls := "ToneGraphModel", name := "wire", desc := "(II)I" } : Jvm.MethodName)) ∈ zAll := zt5 (List.mem_of_getElem? (i := 130) (by decide +kernel)) rfl
theorem wi_X7_wire : (Jvm.Cond.instanceMethod ({ cls := "ToneGraphModel", name := "wire", desc := "(II)I" } : Jvm.MethodName)) ∈ zAll := zt5 (List.mem_of_getElem? (i := 132) (by decide +kernel)) rfl
theorem wcode_X7_wire : (Jvm.Cond.code ({ cls := "ToneGraphModel", name := "wire", desc := "(II)I" } : Jvm.MethodName) prog_9_method_15_code (4 : Nat) (Option.some Jvm.ClassFile.FieldType.int)) ∈ zAll := zt5 (List.mem_of_getElem? (i := 133) (by decide +kernel)) rfl
theorem wm_X7_114 : (Jvm.Cond.methodLink "ToneGraphModel" (114 : Nat) ({ cls := "ToneGraphModel", name := "leads", desc := "(II)Z" } : Jvm.MethodName)) ∈ zAll := zt5 (List.mem_of_getElem? (i := 134) (by decide +kernel)) rfl
theorem wi_X7_leads : (Jvm.Cond.instanceMethod ({ cls := "ToneGraphModel", name := "leads", desc := "(II)Z" } : Jvm.MethodName)) ∈ zAll := zt5 (List.mem_of_getElem? (i := 136) (by decide +kernel)) rfl
theorem wcode_X7_leads : (Jvm.Cond.code ({ cls := "ToneGraphModel", name := "leads", desc := "(II)Z" } : Jvm.MethodName) prog_9_method_16_code (6 : Nat) (Option.some Jvm.ClassFile.FieldType.boolean)) ∈ zAll := zt5 (List.mem_of_getElem? (i := 137) (by decide +kernel)) rfl
theorem wm_L_143 : (Jvm.Cond.methodLink "ToneGraphLaw" (143 : Nat) ({ cls := "ToneGraphModel", name := "disconnect", desc := "(II)I" } : Jvm.MethodName)) ∈ zAll := zt5 (List.mem_of_getElem? (i := 138) (by decide +kernel)) rfl
theorem wi_X7_disconnect : (Jvm.Cond.instanceMethod ({ cls := "ToneGraphModel", name := "disconnect", desc := "(II)I" } : Jvm.MethodName)) ∈ zAll := zt5 (List.mem_of_getElem? (i := 139) (by decide +kernel)) rfl
theorem wv_X7_disconnect : (Jvm.Cond.selects "ToneGraphModel" ({ cls := "ToneGraphModel", name := "disconnect", desc := "(II)I" } : Jvm.MethodName) ({ cls := "ToneGraphModel", name := "disconnect", desc := "(II)I" } : Jvm.MethodName)) ∈ zAll := zt5 (List.mem_of_getElem? (i := 140) (by decide +kernel)) rfl
theorem wcode_X7_disconnect : (Jvm.Cond.code ({ cls := "ToneGraphModel", name := "disconnect", desc := "(II)I" } : Jvm.MethodName) prog_9_method_18_code (6 : Nat) (Option.some Jvm.ClassFile.FieldType.int)) ∈ zAll := zt5 (List.mem_of_getElem? (i := 141) (by decide +kernel)) rfl
theorem wm_L_146 : (Jvm.Cond.methodLink "ToneGraphLaw" (146 : Nat) ({ cls := "ToneGraphModel", name := "setGain", desc := "(II)I" } : Jvm.MethodName)) ∈ zAll := zt5 (List.mem_of_getElem? (i := 142) (by decide +kernel)) rfl
theorem wi_X7_setGain : (Jvm.Cond.instanceMethod ({ cls := "ToneGraphModel", name := "setGain", desc := "(II)I" } : Jvm.MethodName)) ∈ zAll := zt5 (List.mem_of_getElem? (i := 143) (by decide +kernel)) rfl
theorem wv_X7_setGain : (Jvm.Cond.selects "ToneGraphModel" ({ cls := "ToneGraphModel", name := "setGain", desc := "(II)I" } : Jvm.MethodName) ({ cls := "ToneGraphModel", name := "setGain", desc := "(II)I" } : Jvm.MethodName)) ∈ zAll := zt5 (List.mem_of_getElem? (i := 144) (by decide +kernel)) rfl
theorem wcode_X7_setGain : (Jvm.Cond.code ({ cls := "ToneGraphModel", name := "setGain", desc := "(II)I" } : Jvm.MethodName) prog_9_method_21_code (4 : Nat) (Option.some Jvm.ClassFile.FieldType.int)) ∈ zAll := zt5 (List.mem_of_getElem? (i := 145) (by decide +kernel)) rfl
theorem wm_L_149 : (Jvm.Cond.methodLink "ToneGraphLaw" (149 : Nat) ({ cls := "ToneGraphModel", name := "setOutput", desc := "(I)I" } : Jvm.MethodName)) ∈ zAll := zt5 (List.mem_of_getElem? (i := 146) (by decide +kernel)) rfl
theorem wi_X7_setOutput : (Jvm.Cond.instanceMethod ({ cls := "ToneGraphModel", name := "setOutput", desc := "(I)I" } : Jvm.MethodName)) ∈ zAll := zt5 (List.mem_of_getElem? (i := 147) (by decide +kernel)) rfl
theorem wv_X7_setOutput : (Jvm.Cond.selects "ToneGraphModel" ({ cls := "ToneGraphModel", name := "setOutput", desc := "(I)I" } : Jvm.MethodName) ({ cls := "ToneGraphModel", name := "setOutput", desc := "(I)I" } : Jvm.MethodName)) ∈ zAll := zt5 (List.mem_of_getElem? (i := 148) (by decide +kernel)) rfl
theorem wcode_X7_setOutput : (Jvm.Cond.code ({ cls := "ToneGraphModel", name := "setOutput", desc := "(I)I" } : Jvm.MethodName) prog_9_method_22_code (3 : Nat) (Option.some Jvm.ClassFile.FieldType.int)) ∈ zAll := zt5 (List.mem_of_getElem? (i := 149) (by decide +kernel)) rfl
theorem wm_X7_121 : (Jvm.Cond.methodLink "ToneGraphModel" (121 : Nat) ({ cls := "ToneGraphModel", name := "checked", desc := "(Z)I" } : Jvm.MethodName)) ∈ zAll := zt5 (List.mem_of_getElem? (i := 150) (by decide +kernel)) rfl
theorem wi_X7_checked : (Jvm.Cond.instanceMethod ({ cls := "ToneGraphModel", name := "checked", desc := "(Z)I" } : Jvm.MethodName)) ∈ zAll := zt5 (List.mem_of_getElem? (i := 152) (by decide +kernel)) rfl
theorem wcode_X7_checked : (Jvm.Cond.code ({ cls := "ToneGraphModel", name := "checked", desc := "(Z)I" } : Jvm.MethodName) prog_9_method_5_code (2 : Nat) (Option.some Jvm.ClassFile.FieldType.int)) ∈ zAll := zt5 (List.mem_of_getElem? (i := 153) (by decide +kernel)) rfl
theorem wm_L_153 : (Jvm.Cond.methodLink "ToneGraphLaw" (153 : Nat) ({ cls := "ToneGraphModel", name := "nodes", desc := "()I" } : Jvm.MethodName)) ∈ zAll := zt5 (List.mem_of_getElem? (i := 154) (by decide +kernel)) rfl
theorem wi_X7_nodes : (Jvm.Cond.instanceMethod ({ cls := "ToneGraphModel", name := "nodes", desc := "()I" } : Jvm.MethodName)) ∈ zAll := zt5 (List.mem_of_getElem? (i := 155) (by decide +kernel)) rfl
theorem wv_X7_nodes : (Jvm.Cond.selects "ToneGraphModel" ({ cls := "ToneGraphModel", name := "nodes", desc := "()I" } : Jvm.MethodName) ({ cls := "ToneGraphModel", name := "nodes", desc := "()I" } : Jvm.MethodName)) ∈ zAll := zt5 (List.mem_of_getElem? (i := 156) (by decide +kernel)) rfl
theorem wcode_X7_nodes : (Jvm.Cond.code ({ cls := "ToneGraphModel", name := "nodes", desc := "()I" } : Jvm.MethodName) prog_9_method_23_code (1 : Nat) (Option.some Jvm.ClassFile.FieldType.int)) ∈ zAll := zt5 (List.mem_of_getElem? (i := 157) (by decide +kernel)) rfl
theorem wm_X7_125 : (Jvm.Cond.methodLink "ToneGraphModel" (125 : Nat) ({ cls := "ToneGraphModel", name := "plain", desc := "(I)I" } : Jvm.MethodName)) ∈ zAll := zt5 (List.mem_of_getElem? (i := 158) (by decide +kernel)) rfl
theorem wi_X7_plain : (Jvm.Cond.instanceMethod ({ cls := "ToneGraphModel", name := "plain", desc := "(I)I" } : Jvm.MethodName)) ∈ zAll := zt5 (List.mem_of_getElem? (i := 160) (by decide +kernel)) rfl
theorem wcode_X7_plain : (Jvm.Cond.code ({ cls := "ToneGraphModel", name := "plain", desc := "(I)I" } : Jvm.MethodName) prog_9_method_4_code (2 : Nat) (Option.some Jvm.ClassFile.FieldType.int)) ∈ zAll := zt5 (List.mem_of_getElem? (i := 161) (by decide +kernel)) rfl
theorem wm_L_156 : (Jvm.Cond.methodLink "ToneGraphLaw" (156 : Nat) ({ cls := "ToneGraphModel", name := "kindOf", desc := "(I)C" } : Jvm.MethodName)) ∈ zAll := zt5 (List.mem_of_getElem? (i := 162) (by decide +kernel)) rfl
theorem wi_X7_kindOf : (Jvm.Cond.instanceMethod ({ cls := "ToneGraphModel", name := "kindOf", desc := "(I)C" } : Jvm.MethodName)) ∈ zAll := zt5 (List.mem_of_getElem? (i := 163) (by decide +kernel)) rfl
theorem wv_X7_kindOf : (Jvm.Cond.selects "ToneGraphModel" ({ cls := "ToneGraphModel", name := "kindOf", desc := "(I)C" } : Jvm.MethodName) ({ cls := "ToneGraphModel", name := "kindOf", desc := "(I)C" } : Jvm.MethodName)) ∈ zAll := zt5 (List.mem_of_getElem? (i := 164) (by decide +kernel)) rfl
theorem wcode_X7_kindOf : (Jvm.Cond.code ({ cls := "ToneGraphModel", name := "kindOf", desc := "(I)C" } : Jvm.MethodName) prog_9_method_24_code (3 : Nat) (Option.some Jvm.ClassFile.FieldType.char)) ∈ zAll := zt5 (List.mem_of_getElem? (i := 165) (by decide +kernel)) rfl
theorem wm_L_159 : (Jvm.Cond.methodLink "ToneGraphLaw" (159 : Nat) ({ cls := "ToneGraphModel", name := "wires", desc := "(I)I" } : Jvm.MethodName)) ∈ zAll := zt5 (List.mem_of_getElem? (i := 166) (by decide +kernel)) rfl
theorem wi_X7_wires : (Jvm.Cond.instanceMethod ({ cls := "ToneGraphModel", name := "wires", desc := "(I)I" } : Jvm.MethodName)) ∈ zAll := zt5 (List.mem_of_getElem? (i := 167) (by decide +kernel)) rfl
theorem wv_X7_wires : (Jvm.Cond.selects "ToneGraphModel" ({ cls := "ToneGraphModel", name := "wires", desc := "(I)I" } : Jvm.MethodName) ({ cls := "ToneGraphModel", name := "wires", desc := "(I)I" } : Jvm.MethodName)) ∈ zAll := zt5 (List.mem_of_getElem? (i := 168) (by decide +kernel)) rfl
theorem wcode_X7_wires : (Jvm.Cond.code ({ cls := "ToneGraphModel", name := "wires", desc := "(I)I" } : Jvm.MethodName) prog_9_method_25_code (2 : Nat) (Option.some Jvm.ClassFile.FieldType.int)) ∈ zAll := zt5 (List.mem_of_getElem? (i := 169) (by decide +kernel)) rfl
theorem wm_L_162 : (Jvm.Cond.methodLink "ToneGraphLaw" (162 : Nat) ({ cls := "ToneGraphModel", name := "wireFrom", desc := "(II)I" } : Jvm.MethodName)) ∈ zAll := zt5 (List.mem_of_getElem? (i := 170) (by decide +kernel)) rfl
theorem wi_X7_wireFrom : (Jvm.Cond.instanceMethod ({ cls := "ToneGraphModel", name := "wireFrom", desc := "(II)I" } : Jvm.MethodName)) ∈ zAll := zt5 (List.mem_of_getElem? (i := 171) (by decide +kernel)) rfl
theorem wv_X7_wireFrom : (Jvm.Cond.selects "ToneGraphModel" ({ cls := "ToneGraphModel", name := "wireFrom", desc := "(II)I" } : Jvm.MethodName) ({ cls := "ToneGraphModel", name := "wireFrom", desc := "(II)I" } : Jvm.MethodName)) ∈ zAll := zt5 (List.mem_of_getElem? (i := 172) (by decide +kernel)) rfl
theorem wcode_X7_wireFrom : (Jvm.Cond.code ({ cls := "ToneGraphModel", name := "wireFrom", desc := "(II)I" } : Jvm.MethodName) prog_9_method_27_code (3 : Nat) (Option.some Jvm.ClassFile.FieldType.int)) ∈ zAll := zt5 (List.mem_of_getElem? (i := 173) (by decide +kernel)) rfl
theorem wm_X7_129 : (Jvm.Cond.methodLink "ToneGraphModel" (129 : Nat) ({ cls := "ToneGraphModel", name := "hasNoWire", desc := "(II)Z" } : Jvm.MethodName)) ∈ zAll := zt5 (List.mem_of_getElem? (i := 174) (by decide +kernel)) rfl
theorem wi_X7_hasNoWire : (Jvm.Cond.instanceMethod ({ cls := "ToneGraphModel", name := "hasNoWire", desc := "(II)Z" } : Jvm.MethodName)) ∈ zAll := zt5 (List.mem_of_getElem? (i := 176) (by decide +kernel)) rfl
theorem wcode_X7_hasNoWire : (Jvm.Cond.code ({ cls := "ToneGraphModel", name := "hasNoWire", desc := "(II)Z" } : Jvm.MethodName) prog_9_method_26_code (3 : Nat) (Option.some Jvm.ClassFile.FieldType.boolean)) ∈ zAll := zt5 (List.mem_of_getElem? (i := 177) (by decide +kernel)) rfl
theorem wm_L_165 : (Jvm.Cond.methodLink "ToneGraphLaw" (165 : Nat) ({ cls := "ToneGraphModel", name := "wirePercent", desc := "(II)I" } : Jvm.MethodName)) ∈ zAll := zt5 (List.mem_of_getElem? (i := 178) (by decide +kernel)) rfl
theorem wi_X7_wirePercent : (Jvm.Cond.instanceMethod ({ cls := "ToneGraphModel", name := "wirePercent", desc := "(II)I" } : Jvm.MethodName)) ∈ zAll := zt5 (List.mem_of_getElem? (i := 179) (by decide +kernel)) rfl
theorem wv_X7_wirePercent : (Jvm.Cond.selects "ToneGraphModel" ({ cls := "ToneGraphModel", name := "wirePercent", desc := "(II)I" } : Jvm.MethodName) ({ cls := "ToneGraphModel", name := "wirePercent", desc := "(II)I" } : Jvm.MethodName)) ∈ zAll := zt5 (List.mem_of_getElem? (i := 180) (by decide +kernel)) rfl
theorem wcode_X7_wirePercent : (Jvm.Cond.code ({ cls := "ToneGraphModel", name := "wirePercent", desc := "(II)I" } : Jvm.MethodName) prog_9_method_28_code (3 : Nat) (Option.some Jvm.ClassFile.FieldType.int)) ∈ zAll := zt5 (List.mem_of_getElem? (i := 181) (by decide +kernel)) rfl
theorem wm_L_168 : (Jvm.Cond.methodLink "ToneGraphLaw" (168 : Nat) ({ cls := "ToneGraphModel", name := "nodeAt", desc := "(I)I" } : Jvm.MethodName)) ∈ zAll := zt5 (List.mem_of_getElem? (i := 182) (by decide +kernel)) rfl
theorem wi_X7_nodeAt : (Jvm.Cond.instanceMethod ({ cls := "ToneGraphModel", name := "nodeAt", desc := "(I)I" } : Jvm.MethodName)) ∈ zAll := zt5 (List.mem_of_getElem? (i := 183) (by decide +kernel)) rfl
theorem wv_X7_nodeAt : (Jvm.Cond.selects "ToneGraphModel" ({ cls := "ToneGraphModel", name := "nodeAt", desc := "(I)I" } : Jvm.MethodName) ({ cls := "ToneGraphModel", name := "nodeAt", desc := "(I)I" } : Jvm.MethodName)) ∈ zAll := zt5 (List.mem_of_getElem? (i := 184) (by decide +kernel)) rfl
theorem wcode_X7_nodeAt : (Jvm.Cond.code ({ cls := "ToneGraphModel", name := "nodeAt", desc := "(I)I" } : Jvm.MethodName) prog_9_method_29_code (2 : Nat) (Option.some Jvm.ClassFile.FieldType.int)) ∈ zAll := zt5 (List.mem_of_getElem? (i := 185) (by decide +kernel)) rfl
theorem wm_L_172 : (Jvm.Cond.methodLink "ToneGraphLaw" (172 : Nat) ({ cls := "ToneGraphModel", name := "longestBlock", desc := "()I" } : Jvm.MethodName)) ∈ zAll := zt5 (List.mem_of_getElem? (i := 186) (by decide +kernel)) rfl
theorem wi_X7_longestBlock : (Jvm.Cond.instanceMethod ({ cls := "ToneGraphModel", name := "longestBlock", desc := "()I" } : Jvm.MethodName)) ∈ zAll := zt5 (List.mem_of_getElem? (i := 187) (by decide +kernel)) rfl
theorem wv_X7_longestBlock : (Jvm.Cond.selects "ToneGraphModel" ({ cls := "ToneGraphModel", name := "longestBlock", desc := "()I" } : Jvm.MethodName) ({ cls := "ToneGraphModel", name := "longestBlock", desc := "()I" } : Jvm.MethodName)) ∈ zAll := zt5 (List.mem_of_getElem? (i := 188) (by decide +kernel)) rfl
theorem wcode_X7_longestBlock : (Jvm.Cond.code ({ cls := "ToneGraphModel", name := "longestBlock", desc := "()I" } : Jvm.MethodName) prog_9_method_30_code (3 : Nat) (Option.some Jvm.ClassFile.FieldType.int)) ∈ zAll := zt5 (List.mem_of_getElem? (i := 189) (by decide +kernel)) rfl
theorem wm_L_176 : (Jvm.Cond.methodLink "ToneGraphLaw" (176 : Nat) ({ cls := "ToneGraphModel", name := "setWave", desc := "(C)C" } : Jvm.MethodName)) ∈ zAll := zt5 (List.mem_of_getElem? (i := 190) (by decide +kernel)) rfl
theorem wi_X7_setWave : (Jvm.Cond.instanceMethod ({ cls := "ToneGraphModel", name := "setWave", desc := "(C)C" } : Jvm.MethodName)) ∈ zAll := zt5 (List.mem_of_getElem? (i := 191) (by decide +kernel)) rfl
theorem wv_X7_setWave : (Jvm.Cond.selects "ToneGraphModel" ({ cls := "ToneGraphModel", name := "setWave", desc := "(C)C" } : Jvm.MethodName) ({ cls := "ToneGraphModel", name := "setWave", desc := "(C)C" } : Jvm.MethodName)) ∈ zAll := zt5 (List.mem_of_getElem? (i := 192) (by decide +kernel)) rfl
theorem wcode_X7_setWave : (Jvm.Cond.code ({ cls := "ToneGraphModel", name := "setWave", desc := "(C)C" } : Jvm.MethodName) prog_9_method_31_code (3 : Nat) (Option.some Jvm.ClassFile.FieldType.char)) ∈ zAll := zt5 (List.mem_of_getElem? (i := 193) (by decide +kernel)) rfl
theorem wm_L_180 : (Jvm.Cond.methodLink "ToneGraphLaw" (180 : Nat) ({ cls := "ToneGraphModel", name := "setEnvelope", desc := "(IIII)I" } : Jvm.MethodName)) ∈ zAll := zt5 (List.mem_of_getElem? (i := 194) (by decide +kernel)) rfl
theorem wi_X7_setEnvelope : (Jvm.Cond.instanceMethod ({ cls := "ToneGraphModel", name := "setEnvelope", desc := "(IIII)I" } : Jvm.MethodName)) ∈ zAll := zt5 (List.mem_of_getElem? (i := 195) (by decide +kernel)) rfl
theorem wv_X7_setEnvelope : (Jvm.Cond.selects "ToneGraphModel" ({ cls := "ToneGraphModel", name := "setEnvelope", desc := "(IIII)I" } : Jvm.MethodName) ({ cls := "ToneGraphModel", name := "setEnvelope", desc := "(IIII)I" } : Jvm.MethodName)) ∈ zAll := zt5 (List.mem_of_getElem? (i := 196) (by decide +kernel)) rfl
theorem wcode_X7_setEnvelope : (Jvm.Cond.code ({ cls := "ToneGraphModel", name := "setEnvelope", desc := "(IIII)I" } : Jvm.MethodName) prog_9_method_32_code (6 : Nat) (Option.some Jvm.ClassFile.FieldType.int)) ∈ zAll := zt5 (List.mem_of_getElem? (i := 197) (by decide +kernel)) rfl
theorem wm_L_183 : (Jvm.Cond.methodLink "ToneGraphLaw" (183 : Nat) ({ cls := "ToneGraphModel", name := "begin", desc := "(II)I" } : Jvm.MethodName)) ∈ zAll := zt5 (List.mem_of_getElem? (i := 198) (by decide +kernel)) rfl
theorem wi_X7_begin : (Jvm.Cond.instanceMethod ({ cls := "ToneGraphModel", name := "begin", desc := "(II)I" } : Jvm.MethodName)) ∈ zAll := zt5 (List.mem_of_getElem? (i := 199) (by decide +kernel)) rfl
theorem wv_X7_begin : (Jvm.Cond.selects "ToneGraphModel" ({ cls := "ToneGraphModel", name := "begin", desc := "(II)I" } : Jvm.MethodName) ({ cls := "ToneGraphModel", name := "begin", desc := "(II)I" } : Jvm.MethodName)) ∈ zAll := zt5 (List.mem_of_getElem? (i := 200) (by decide +kernel)) rfl
theorem wcode_X7_begin : (Jvm.Cond.code ({ cls := "ToneGraphModel", name := "begin", desc := "(II)I" } : Jvm.MethodName) prog_9_method_39_code (5 : Nat) (Option.some Jvm.ClassFile.FieldType.int)) ∈ zAll := zt5 (List.mem_of_getElem? (i := 201) (by decide +kernel)) rfl
theorem wm_X7_141 : (Jvm.Cond.methodLink "ToneGraphModel" (141 : Nat) ({ cls := "ToneGraphModel", name := "voiceFor", desc := "()I" } : Jvm.MethodName)) ∈ zAll := zt5 (List.mem_of_getElem? (i := 202) (by decide +kernel)) rfl
theorem wi_X7_voiceFor : (Jvm.Cond.instanceMethod ({ cls := "ToneGraphModel", name := "voiceFor", desc := "()I" } : Jvm.MethodName)) ∈ zAll := zt5 (List.mem_of_getElem? (i := 204) (by decide +kernel)) rfl
theorem wcode_X7_voiceFor : (Jvm.Cond.code ({ cls := "ToneGraphModel", name := "voiceFor", desc := "()I" } : Jvm.MethodName) prog_9_method_38_code (3 : Nat) (Option.some Jvm.ClassFile.FieldType.int)) ∈ zAll := zt5 (List.mem_of_getElem? (i := 205) (by decide +kernel)) rfl
theorem wm_X7_135 : (Jvm.Cond.methodLink "ToneGraphModel" (135 : Nat) ({ cls := "ToneGraphModel", name := "plays", desc := "(I)Z" } : Jvm.MethodName)) ∈ zAll := zt5 (List.mem_of_getElem? (i := 206) (by decide +kernel)) rfl
theorem wi_X7_plays : (Jvm.Cond.instanceMethod ({ cls := "ToneGraphModel", name := "plays", desc := "(I)Z" } : Jvm.MethodName)) ∈ zAll := zt5 (List.mem_of_getElem? (i := 208) (by decide +kernel)) rfl
theorem wcode_X7_plays : (Jvm.Cond.code ({ cls := "ToneGraphModel", name := "plays", desc := "(I)Z" } : Jvm.MethodName) prog_9_method_35_code (2 : Nat) (Option.some Jvm.ClassFile.FieldType.boolean)) ∈ zAll := zt5 (List.mem_of_getElem? (i := 209) (by decide +kernel)) rfl
theorem wm_X7_132 : (Jvm.Cond.methodLink "ToneGraphModel" (132 : Nat) ({ cls := "ToneGraphModel", name := "at", desc := "(II)I" } : Jvm.MethodName)) ∈ zAll := zt5 (List.mem_of_getElem? (i := 210) (by decide +kernel)) rfl
theorem wi_X7_at : (Jvm.Cond.instanceMethod ({ cls := "ToneGraphModel", name := "at", desc := "(II)I" } : Jvm.MethodName)) ∈ zAll := zt5 (List.mem_of_getElem? (i := 212) (by decide +kernel)) rfl
theorem wcode_X7_at : (Jvm.Cond.code ({ cls := "ToneGraphModel", name := "at", desc := "(II)I" } : Jvm.MethodName) prog_9_method_33_code (3 : Nat) (Option.some Jvm.ClassFile.FieldType.int)) ∈ zAll := zt5 (List.mem_of_getElem? (i := 213) (by decide +kernel)) rfl
theorem wm_X7_138 : (Jvm.Cond.methodLink "ToneGraphModel" (138 : Nat) ({ cls := "ToneGraphModel", name := "isReleased", desc := "(I)Z" } : Jvm.MethodName)) ∈ zAll := zt5 (List.mem_of_getElem? (i := 214) (by decide +kernel)) rfl
theorem wi_X7_isReleased : (Jvm.Cond.instanceMethod ({ cls := "ToneGraphModel", name := "isReleased", desc := "(I)Z" } : Jvm.MethodName)) ∈ zAll := zt5 (List.mem_of_getElem? (i := 216) (by decide +kernel)) rfl
theorem wcode_X7_isReleased : (Jvm.Cond.code ({ cls := "ToneGraphModel", name := "isReleased", desc := "(I)Z" } : Jvm.MethodName) prog_9_method_36_code (2 : Nat) (Option.some Jvm.ClassFile.FieldType.boolean)) ∈ zAll := zt5 (List.mem_of_getElem? (i := 217) (by decide +kernel)) rfl
theorem wm_X7_145 : (Jvm.Cond.methodLink "ToneGraphModel" (145 : Nat) ({ cls := "ToneGraphModel", name := "lay", desc := "(III)V" } : Jvm.MethodName)) ∈ zAll := zt5 (List.mem_of_getElem? (i := 218) (by decide +kernel)) rfl
theorem wi_X7_lay : (Jvm.Cond.instanceMethod ({ cls := "ToneGraphModel", name := "lay", desc := "(III)V" } : Jvm.MethodName)) ∈ zAll := zt5 (List.mem_of_getElem? (i := 220) (by decide +kernel)) rfl
theorem wcode_X7_lay : (Jvm.Cond.code ({ cls := "ToneGraphModel", name := "lay", desc := "(III)V" } : Jvm.MethodName) prog_9_method_34_code (4 : Nat) (Option.none : Option Jvm.ClassFile.FieldType)) ∈ zAll := zt5 (List.mem_of_getElem? (i := 221) (by decide +kernel)) rfl
theorem wm_L_186 : (Jvm.Cond.methodLink "ToneGraphLaw" (186 : Nat) ({ cls := "ToneGraphModel", name := "end", desc := "(I)I" } : Jvm.MethodName)) ∈ zAll := zt5 (List.mem_of_getElem? (i := 222) (by decide +kernel)) rfl
theorem wi_X7_end : (Jvm.Cond.instanceMethod ({ cls := "ToneGraphModel", name := "end", desc := "(I)I" } : Jvm.MethodName)) ∈ zAll := zt5 (List.mem_of_getElem? (i := 223) (by decide +kernel)) rfl
theorem wv_X7_end : (Jvm.Cond.selects "ToneGraphModel" ({ cls := "ToneGraphModel", name := "end", desc := "(I)I" } : Jvm.MethodName) ({ cls := "ToneGraphModel", name := "end", desc := "(I)I" } : Jvm.MethodName)) ∈ zAll := zt5 (List.mem_of_getElem? (i := 224) (by decide +kernel)) rfl
theorem wcode_X7_end : (Jvm.Cond.code ({ cls := "ToneGraphModel", name := "end", desc := "(I)I" } : Jvm.MethodName) prog_9_method_42_code (4 : Nat) (Option.some Jvm.ClassFile.FieldType.int)) ∈ zAll := zt5 (List.mem_of_getElem? (i := 225) (by decide +kernel)) rfl
theorem wm_X7_152 : (Jvm.Cond.methodLink "ToneGraphModel" (152 : Nat) ({ cls := "ToneGraphModel", name := "isHeld", desc := "(I)Z" } : Jvm.MethodName)) ∈ zAll := zt5 (List.mem_of_getElem? (i := 226) (by decide +kernel)) rfl
theorem wi_X7_isHeld : (Jvm.Cond.instanceMethod ({ cls := "ToneGraphModel", name := "isHeld", desc := "(I)Z" } : Jvm.MethodName)) ∈ zAll := zt5 (List.mem_of_getElem? (i := 228) (by decide +kernel)) rfl
theorem wcode_X7_isHeld : (Jvm.Cond.code ({ cls := "ToneGraphModel", name := "isHeld", desc := "(I)Z" } : Jvm.MethodName) prog_9_method_37_code (2 : Nat) (Option.some Jvm.ClassFile.FieldType.boolean)) ∈ zAll := zt5 (List.mem_of_getElem? (i := 229) (by decide +kernel)) rfl
theorem wm_X7_155 : (Jvm.Cond.methodLink "ToneGraphModel" (155 : Nat) ({ cls := "ToneGraphModel", name := "releases", desc := "(I)V" } : Jvm.MethodName)) ∈ zAll := zt5 (List.mem_of_getElem? (i := 230) (by decide +kernel)) rfl
theorem wi_X7_releases : (Jvm.Cond.instanceMethod ({ cls := "ToneGraphModel", name := "releases", desc := "(I)V" } : Jvm.MethodName)) ∈ zAll := zt5 (List.mem_of_getElem? (i := 232) (by decide +kernel)) rfl
theorem wcode_X7_releases : (Jvm.Cond.code ({ cls := "ToneGraphModel", name := "releases", desc := "(I)V" } : Jvm.MethodName) prog_9_method_41_code (3 : Nat) (Option.none : Option Jvm.ClassFile.FieldType)) ∈ zAll := zt5 (List.mem_of_getElem? (i := 233) (by decide +kernel)) rfl
theorem wm_X7_149 : (Jvm.Cond.methodLink "ToneGraphModel" (149 : Nat) ({ cls := "ToneGraphModel", name := "levelAt", desc := "(I)I" } : Jvm.MethodName)) ∈ zAll := zt5 (List.mem_of_getElem? (i := 234) (by decide +kernel)) rfl
theorem wi_X7_levelAt : (Jvm.Cond.instanceMethod ({ cls := "ToneGraphModel", name := "levelAt", desc := "(I)I" } : Jvm.MethodName)) ∈ zAll := zt5 (List.mem_of_getElem? (i := 236) (by decide +kernel)) rfl
theorem wcode_X7_levelAt : (Jvm.Cond.code ({ cls := "ToneGraphModel", name := "levelAt", desc := "(I)I" } : Jvm.MethodName) prog_9_method_40_code (4 : Nat) (Option.some Jvm.ClassFile.FieldType.int)) ∈ zAll := zt5 (List.mem_of_getElem? (i := 237) (by decide +kernel)) rfl
theorem wm_L_190 : (Jvm.Cond.methodLink "ToneGraphLaw" (190 : Nat) ({ cls := "ToneGraphModel", name := "endAll", desc := "()I" } : Jvm.MethodName)) ∈ zAll := zt5 (List.mem_of_getElem? (i := 238) (by decide +kernel)) rfl
theorem wi_X7_endAll : (Jvm.Cond.instanceMethod ({ cls := "ToneGraphModel", name := "endAll", desc := "()I" } : Jvm.MethodName)) ∈ zAll := zt5 (List.mem_of_getElem? (i := 239) (by decide +kernel)) rfl
theorem zt6 {w : Cond} (h : w ∈ tables_1_6) (g : goodWord w = true) : w ∈ zAll := List.mem_filter.mpr ⟨List.mem_append_right _ (List.mem_append_right _ (List.mem_append_right _ (List.mem_append_right _ (List.mem_append_right _ (List.mem_append_right _ (h)))))), g⟩
theorem wv_X7_endAll : (Jvm.Cond.selects "ToneGraphModel" ({ cls := "ToneGraphModel", name := "endAll", desc := "()I" } : Jvm.MethodName) ({ cls := "ToneGraphModel", name := "endAll", desc := "()I" } : Jvm.MethodName)) ∈ zAll := zt6 (List.mem_of_getElem? (i := 0) (by decide +kernel)) rfl
theorem wcode_X7_endAll : (Jvm.Cond.code ({ cls := "ToneGraphModel", name := "endAll", desc := "()I" } : Jvm.MethodName) prog_9_method_43_code (3 : Nat) (Option.some Jvm.ClassFile.FieldType.int)) ∈ zAll := zt6 (List.mem_of_getElem? (i := 1) (by decide +kernel)) rfl
theorem wm_L_194 : (Jvm.Cond.methodLink "ToneGraphLaw" (194 : Nat) ({ cls := "ToneGraphModel", name := "sounding", desc := "()I" } : Jvm.MethodName)) ∈ zAll := zt6 (List.mem_of_getElem? (i := 2) (by decide +kernel)) rfl
theorem wi_X7_sounding : (Jvm.Cond.instanceMethod ({ cls := "ToneGraphModel", name := "sounding", desc := "()I" } : Jvm.MethodName)) ∈ zAll := zt6 (List.mem_of_getElem? (i := 3) (by decide +kernel)) rfl
theorem wv_X7_sounding : (Jvm.Cond.selects "ToneGraphModel" ({ cls := "ToneGraphModel", name := "sounding", desc := "()I" } : Jvm.MethodName) ({ cls := "ToneGraphModel", name := "sounding", desc := "()I" } : Jvm.MethodName)) ∈ zAll := zt6 (List.mem_of_getElem? (i := 4) (by decide +kernel)) rfl
theorem wcode_X7_sounding : (Jvm.Cond.code ({ cls := "ToneGraphModel", name := "sounding", desc := "()I" } : Jvm.MethodName) prog_9_method_44_code (3 : Nat) (Option.some Jvm.ClassFile.FieldType.int)) ∈ zAll := zt6 (List.mem_of_getElem? (i := 5) (by decide +kernel)) rfl
theorem wm_L_197 : (Jvm.Cond.methodLink "ToneGraphLaw" (197 : Nat) ({ cls := "ToneGraphModel", name := "stateOf", desc := "(I)C" } : Jvm.MethodName)) ∈ zAll := zt6 (List.mem_of_getElem? (i := 6) (by decide +kernel)) rfl
theorem wi_X7_stateOf : (Jvm.Cond.instanceMethod ({ cls := "ToneGraphModel", name := "stateOf", desc := "(I)C" } : Jvm.MethodName)) ∈ zAll := zt6 (List.mem_of_getElem? (i := 7) (by decide +kernel)) rfl
theorem wv_X7_stateOf : (Jvm.Cond.selects "ToneGraphModel" ({ cls := "ToneGraphModel", name := "stateOf", desc := "(I)C" } : Jvm.MethodName) ({ cls := "ToneGraphModel", name := "stateOf", desc := "(I)C" } : Jvm.MethodName)) ∈ zAll := zt6 (List.mem_of_getElem? (i := 8) (by decide +kernel)) rfl
theorem wcode_X7_stateOf : (Jvm.Cond.code ({ cls := "ToneGraphModel", name := "stateOf", desc := "(I)C" } : Jvm.MethodName) prog_9_method_46_code (3 : Nat) (Option.some Jvm.ClassFile.FieldType.char)) ∈ zAll := zt6 (List.mem_of_getElem? (i := 9) (by decide +kernel)) rfl
theorem wm_X7_159 : (Jvm.Cond.methodLink "ToneGraphModel" (159 : Nat) ({ cls := "ToneGraphModel", name := "isVoice", desc := "(I)Z" } : Jvm.MethodName)) ∈ zAll := zt6 (List.mem_of_getElem? (i := 10) (by decide +kernel)) rfl
theorem ws_X7_isVoice : (Jvm.Cond.static ({ cls := "ToneGraphModel", name := "isVoice", desc := "(I)Z" } : Jvm.MethodName)) ∈ zAll := zt6 (List.mem_of_getElem? (i := 11) (by decide +kernel)) rfl
theorem wcode_X7_isVoice : (Jvm.Cond.code ({ cls := "ToneGraphModel", name := "isVoice", desc := "(I)Z" } : Jvm.MethodName) prog_9_method_45_code (1 : Nat) (Option.some Jvm.ClassFile.FieldType.boolean)) ∈ zAll := zt6 (List.mem_of_getElem? (i := 12) (by decide +kernel)) rfl
theorem wm_L_200 : (Jvm.Cond.methodLink "ToneGraphLaw" (200 : Nat) ({ cls := "ToneGraphModel", name := "keyOf", desc := "(I)I" } : Jvm.MethodName)) ∈ zAll := zt6 (List.mem_of_getElem? (i := 13) (by decide +kernel)) rfl
theorem wi_X7_keyOf : (Jvm.Cond.instanceMethod ({ cls := "ToneGraphModel", name := "keyOf", desc := "(I)I" } : Jvm.MethodName)) ∈ zAll := zt6 (List.mem_of_getElem? (i := 14) (by decide +kernel)) rfl
theorem wv_X7_keyOf : (Jvm.Cond.selects "ToneGraphModel" ({ cls := "ToneGraphModel", name := "keyOf", desc := "(I)I" } : Jvm.MethodName) ({ cls := "ToneGraphModel", name := "keyOf", desc := "(I)I" } : Jvm.MethodName)) ∈ zAll := zt6 (List.mem_of_getElem? (i := 15) (by decide +kernel)) rfl
theorem wcode_X7_keyOf : (Jvm.Cond.code ({ cls := "ToneGraphModel", name := "keyOf", desc := "(I)I" } : Jvm.MethodName) prog_9_method_48_code (2 : Nat) (Option.some Jvm.ClassFile.FieldType.int)) ∈ zAll := zt6 (List.mem_of_getElem? (i := 16) (by decide +kernel)) rfl
theorem wm_X7_162 : (Jvm.Cond.methodLink "ToneGraphModel" (162 : Nat) ({ cls := "ToneGraphModel", name := "isSilent", desc := "(I)Z" } : Jvm.MethodName)) ∈ zAll := zt6 (List.mem_of_getElem? (i := 17) (by decide +kernel)) rfl
theorem wi_X7_isSilent : (Jvm.Cond.instanceMethod ({ cls := "ToneGraphModel", name := "isSilent", desc := "(I)Z" } : Jvm.MethodName)) ∈ zAll := zt6 (List.mem_of_getElem? (i := 19) (by decide +kernel)) rfl
theorem wcode_X7_isSilent : (Jvm.Cond.code ({ cls := "ToneGraphModel", name := "isSilent", desc := "(I)Z" } : Jvm.MethodName) prog_9_method_47_code (2 : Nat) (Option.some Jvm.ClassFile.FieldType.boolean)) ∈ zAll := zt6 (List.mem_of_getElem? (i := 20) (by decide +kernel)) rfl
theorem wm_L_203 : (Jvm.Cond.methodLink "ToneGraphLaw" (203 : Nat) ({ cls := "ToneGraphModel", name := "levelOf", desc := "(I)I" } : Jvm.MethodName)) ∈ zAll := zt6 (List.mem_of_getElem? (i := 21) (by decide +kernel)) rfl
theorem wi_X7_levelOf : (Jvm.Cond.instanceMethod ({ cls := "ToneGraphModel", name := "levelOf", desc := "(I)I" } : Jvm.MethodName)) ∈ zAll := zt6 (List.mem_of_getElem? (i := 22) (by decide +kernel)) rfl
theorem wv_X7_levelOf : (Jvm.Cond.selects "ToneGraphModel" ({ cls := "ToneGraphModel", name := "levelOf", desc := "(I)I" } : Jvm.MethodName) ({ cls := "ToneGraphModel", name := "levelOf", desc := "(I)I" } : Jvm.MethodName)) ∈ zAll := zt6 (List.mem_of_getElem? (i := 23) (by decide +kernel)) rfl
theorem wcode_X7_levelOf : (Jvm.Cond.code ({ cls := "ToneGraphModel", name := "levelOf", desc := "(I)I" } : Jvm.MethodName) prog_9_method_49_code (2 : Nat) (Option.some Jvm.ClassFile.FieldType.int)) ∈ zAll := zt6 (List.mem_of_getElem? (i := 24) (by decide +kernel)) rfl
theorem wm_L_206 : (Jvm.Cond.methodLink "ToneGraphLaw" (206 : Nat) ({ cls := "ToneGraphModel", name := "phaseOf", desc := "(I)I" } : Jvm.MethodName)) ∈ zAll := zt6 (List.mem_of_getElem? (i := 25) (by decide +kernel)) rfl
theorem wi_X7_phaseOf : (Jvm.Cond.instanceMethod ({ cls := "ToneGraphModel", name := "phaseOf", desc := "(I)I" } : Jvm.MethodName)) ∈ zAll := zt6 (List.mem_of_getElem? (i := 26) (by decide +kernel)) rfl
theorem wv_X7_phaseOf : (Jvm.Cond.selects "ToneGraphModel" ({ cls := "ToneGraphModel", name := "phaseOf", desc := "(I)I" } : Jvm.MethodName) ({ cls := "ToneGraphModel", name := "phaseOf", desc := "(I)I" } : Jvm.MethodName)) ∈ zAll := zt6 (List.mem_of_getElem? (i := 27) (by decide +kernel)) rfl
theorem wcode_X7_phaseOf : (Jvm.Cond.code ({ cls := "ToneGraphModel", name := "phaseOf", desc := "(I)I" } : Jvm.MethodName) prog_9_method_50_code (2 : Nat) (Option.some Jvm.ClassFile.FieldType.int)) ∈ zAll := zt6 (List.mem_of_getElem? (i := 28) (by decide +kernel)) rfl
theorem wm_L_210 : (Jvm.Cond.methodLink "ToneGraphLaw" (210 : Nat) ({ cls := "ToneGraphModel", name := "stolen", desc := "()I" } : Jvm.MethodName)) ∈ zAll := zt6 (List.mem_of_getElem? (i := 29) (by decide +kernel)) rfl
theorem wi_X7_stolen : (Jvm.Cond.instanceMethod ({ cls := "ToneGraphModel", name := "stolen", desc := "()I" } : Jvm.MethodName)) ∈ zAll := zt6 (List.mem_of_getElem? (i := 30) (by decide +kernel)) rfl
theorem wv_X7_stolen : (Jvm.Cond.selects "ToneGraphModel" ({ cls := "ToneGraphModel", name := "stolen", desc := "()I" } : Jvm.MethodName) ({ cls := "ToneGraphModel", name := "stolen", desc := "()I" } : Jvm.MethodName)) ∈ zAll := zt6 (List.mem_of_getElem? (i := 31) (by decide +kernel)) rfl
theorem wcode_X7_stolen : (Jvm.Cond.code ({ cls := "ToneGraphModel", name := "stolen", desc := "()I" } : Jvm.MethodName) prog_9_method_51_code (1 : Nat) (Option.some Jvm.ClassFile.FieldType.int)) ∈ zAll := zt6 (List.mem_of_getElem? (i := 32) (by decide +kernel)) rfl
theorem wm_L_213 : (Jvm.Cond.methodLink "ToneGraphLaw" (213 : Nat) ({ cls := "ToneGraphModel", name := "play", desc := "(I)I" } : Jvm.MethodName)) ∈ zAll := zt6 (List.mem_of_getElem? (i := 33) (by decide +kernel)) rfl
theorem wi_X7_play : (Jvm.Cond.instanceMethod ({ cls := "ToneGraphModel", name := "play", desc := "(I)I" } : Jvm.MethodName)) ∈ zAll := zt6 (List.mem_of_getElem? (i := 34) (by decide +kernel)) rfl
theorem wv_X7_play : (Jvm.Cond.selects "ToneGraphModel" ({ cls := "ToneGraphModel", name := "play", desc := "(I)I" } : Jvm.MethodName) ({ cls := "ToneGraphModel", name := "play", desc := "(I)I" } : Jvm.MethodName)) ∈ zAll := zt6 (List.mem_of_getElem? (i := 35) (by decide +kernel)) rfl
theorem wcode_X7_play : (Jvm.Cond.code ({ cls := "ToneGraphModel", name := "play", desc := "(I)I" } : Jvm.MethodName) prog_9_method_63_code (4 : Nat) (Option.some Jvm.ClassFile.FieldType.int)) ∈ zAll := zt6 (List.mem_of_getElem? (i := 36) (by decide +kernel)) rfl
theorem wm_X7_204 : (Jvm.Cond.methodLink "ToneGraphModel" (204 : Nat) ({ cls := "ToneGraphModel", name := "sampled", desc := "()I" } : Jvm.MethodName)) ∈ zAll := zt6 (List.mem_of_getElem? (i := 37) (by decide +kernel)) rfl
theorem wi_X7_sampled : (Jvm.Cond.instanceMethod ({ cls := "ToneGraphModel", name := "sampled", desc := "()I" } : Jvm.MethodName)) ∈ zAll := zt6 (List.mem_of_getElem? (i := 39) (by decide +kernel)) rfl
theorem wcode_X7_sampled : (Jvm.Cond.code ({ cls := "ToneGraphModel", name := "sampled", desc := "()I" } : Jvm.MethodName) prog_9_method_62_code (2 : Nat) (Option.some Jvm.ClassFile.FieldType.int)) ∈ zAll := zt6 (List.mem_of_getElem? (i := 40) (by decide +kernel)) rfl
theorem wm_X7_201 : (Jvm.Cond.methodLink "ToneGraphModel" (201 : Nat) ({ cls := "ToneGraphModel", name := "samples", desc := "()I" } : Jvm.MethodName)) ∈ zAll := zt6 (List.mem_of_getElem? (i := 41) (by decide +kernel)) rfl
theorem wi_X7_samples : (Jvm.Cond.instanceMethod ({ cls := "ToneGraphModel", name := "samples", desc := "()I" } : Jvm.MethodName)) ∈ zAll := zt6 (List.mem_of_getElem? (i := 43) (by decide +kernel)) rfl
theorem wcode_X7_samples : (Jvm.Cond.code ({ cls := "ToneGraphModel", name := "samples", desc := "()I" } : Jvm.MethodName) prog_9_method_61_code (2 : Nat) (Option.some Jvm.ClassFile.FieldType.int)) ∈ zAll := zt6 (List.mem_of_getElem? (i := 44) (by decide +kernel)) rfl
theorem wm_X7_198 : (Jvm.Cond.methodLink "ToneGraphModel" (198 : Nat) ({ cls := "ToneGraphModel", name := "sounds", desc := "(I)I" } : Jvm.MethodName)) ∈ zAll := zt6 (List.mem_of_getElem? (i := 45) (by decide +kernel)) rfl
theorem wi_X7_sounds : (Jvm.Cond.instanceMethod ({ cls := "ToneGraphModel", name := "sounds", desc := "(I)I" } : Jvm.MethodName)) ∈ zAll := zt6 (List.mem_of_getElem? (i := 47) (by decide +kernel)) rfl
theorem wcode_X7_sounds : (Jvm.Cond.code ({ cls := "ToneGraphModel", name := "sounds", desc := "(I)I" } : Jvm.MethodName) prog_9_method_60_code (3 : Nat) (Option.some Jvm.ClassFile.FieldType.int)) ∈ zAll := zt6 (List.mem_of_getElem? (i := 48) (by decide +kernel)) rfl
theorem wm_X7_189 : (Jvm.Cond.methodLink "ToneGraphModel" (189 : Nat) ({ cls := "ToneGraphModel", name := "sung", desc := "()I" } : Jvm.MethodName)) ∈ zAll := zt6 (List.mem_of_getElem? (i := 49) (by decide +kernel)) rfl
theorem wi_X7_sung : (Jvm.Cond.instanceMethod ({ cls := "ToneGraphModel", name := "sung", desc := "()I" } : Jvm.MethodName)) ∈ zAll := zt6 (List.mem_of_getElem? (i := 51) (by decide +kernel)) rfl
theorem wcode_X7_sung : (Jvm.Cond.code ({ cls := "ToneGraphModel", name := "sung", desc := "()I" } : Jvm.MethodName) prog_9_method_57_code (3 : Nat) (Option.some Jvm.ClassFile.FieldType.int)) ∈ zAll := zt6 (List.mem_of_getElem? (i := 52) (by decide +kernel)) rfl
theorem wm_X7_177 : (Jvm.Cond.methodLink "ToneGraphModel" (177 : Nat) ({ cls := "ToneGraphModel", name := "sings", desc := "(I)I" } : Jvm.MethodName)) ∈ zAll := zt6 (List.mem_of_getElem? (i := 53) (by decide +kernel)) rfl
theorem wi_X7_sings : (Jvm.Cond.instanceMethod ({ cls := "ToneGraphModel", name := "sings", desc := "(I)I" } : Jvm.MethodName)) ∈ zAll := zt6 (List.mem_of_getElem? (i := 55) (by decide +kernel)) rfl
theorem wcode_X7_sings : (Jvm.Cond.code ({ cls := "ToneGraphModel", name := "sings", desc := "(I)I" } : Jvm.MethodName) prog_9_method_55_code (3 : Nat) (Option.some Jvm.ClassFile.FieldType.int)) ∈ zAll := zt6 (List.mem_of_getElem? (i := 56) (by decide +kernel)) rfl
theorem wm_X7_170 : (Jvm.Cond.methodLink "ToneGraphModel" (170 : Nat) ({ cls := "ToneGraphModel", name := "valueOf", desc := "(II)I" } : Jvm.MethodName)) ∈ zAll := zt6 (List.mem_of_getElem? (i := 57) (by decide +kernel)) rfl
theorem ws_X7_valueOf : (Jvm.Cond.static ({ cls := "ToneGraphModel", name := "valueOf", desc := "(II)I" } : Jvm.MethodName)) ∈ zAll := zt6 (List.mem_of_getElem? (i := 58) (by decide +kernel)) rfl
theorem wcode_X7_valueOf : (Jvm.Cond.code ({ cls := "ToneGraphModel", name := "valueOf", desc := "(II)I" } : Jvm.MethodName) prog_9_method_54_code (2 : Nat) (Option.some Jvm.ClassFile.FieldType.int)) ∈ zAll := zt6 (List.mem_of_getElem? (i := 59) (by decide +kernel)) rfl
theorem wk_X7_168 : (Jvm.Cond.constant "ToneGraphModel" (168 : Nat) (32768 : Int32)) ∈ zAll := zt6 (List.mem_of_getElem? (i := 60) (by decide +kernel)) rfl
theorem wk_X7_169 : (Jvm.Cond.constant "ToneGraphModel" (169 : Nat) (65535 : Int32)) ∈ zAll := zt6 (List.mem_of_getElem? (i := 61) (by decide +kernel)) rfl
theorem wm_X7_173 : (Jvm.Cond.methodLink "ToneGraphModel" (173 : Nat) ({ cls := "ToneGraphModel", name := "stepOf", desc := "(I)I" } : Jvm.MethodName)) ∈ zAll := zt6 (List.mem_of_getElem? (i := 62) (by decide +kernel)) rfl
theorem ws_X7_stepOf : (Jvm.Cond.static ({ cls := "ToneGraphModel", name := "stepOf", desc := "(I)I" } : Jvm.MethodName)) ∈ zAll := zt6 (List.mem_of_getElem? (i := 63) (by decide +kernel)) rfl
theorem wcode_X7_stepOf : (Jvm.Cond.code ({ cls := "ToneGraphModel", name := "stepOf", desc := "(I)I" } : Jvm.MethodName) prog_9_method_53_code (1 : Nat) (Option.some Jvm.ClassFile.FieldType.int)) ∈ zAll := zt6 (List.mem_of_getElem? (i := 64) (by decide +kernel)) rfl
theorem wm_X7_165 : (Jvm.Cond.methodLink "ToneGraphModel" (165 : Nat) ({ cls := "ToneGraphModel", name := "baseOf", desc := "(I)I" } : Jvm.MethodName)) ∈ zAll := zt6 (List.mem_of_getElem? (i := 65) (by decide +kernel)) rfl
theorem ws_X7_baseOf : (Jvm.Cond.static ({ cls := "ToneGraphModel", name := "baseOf", desc := "(I)I" } : Jvm.MethodName)) ∈ zAll := zt6 (List.mem_of_getElem? (i := 66) (by decide +kernel)) rfl
theorem wcode_X7_baseOf : (Jvm.Cond.code ({ cls := "ToneGraphModel", name := "baseOf", desc := "(I)I" } : Jvm.MethodName) prog_9_method_52_code (1 : Nat) (Option.some Jvm.ClassFile.FieldType.int)) ∈ zAll := zt6 (List.mem_of_getElem? (i := 67) (by decide +kernel)) rfl
theorem wk_X7_176 : (Jvm.Cond.constant "ToneGraphModel" (176 : Nat) (65536 : Int32)) ∈ zAll := zt6 (List.mem_of_getElem? (i := 68) (by decide +kernel)) rfl
theorem wm_X7_192 : (Jvm.Cond.methodLink "ToneGraphModel" (192 : Nat) ({ cls := "ToneGraphModel", name := "filtered", desc := "(I)I" } : Jvm.MethodName)) ∈ zAll := zt6 (List.mem_of_getElem? (i := 69) (by decide +kernel)) rfl
theorem wi_X7_filtered : (Jvm.Cond.instanceMethod ({ cls := "ToneGraphModel", name := "filtered", desc := "(I)I" } : Jvm.MethodName)) ∈ zAll := zt6 (List.mem_of_getElem? (i := 71) (by decide +kernel)) rfl
theorem wcode_X7_filtered : (Jvm.Cond.code ({ cls := "ToneGraphModel", name := "filtered", desc := "(I)I" } : Jvm.MethodName) prog_9_method_58_code (4 : Nat) (Option.some Jvm.ClassFile.FieldType.int)) ∈ zAll := zt6 (List.mem_of_getElem? (i := 72) (by decide +kernel)) rfl
theorem wm_X7_180 : (Jvm.Cond.methodLink "ToneGraphModel" (180 : Nat) ({ cls := "ToneGraphModel", name := "inputOf", desc := "(I)I" } : Jvm.MethodName)) ∈ zAll := zt6 (List.mem_of_getElem? (i := 73) (by decide +kernel)) rfl
theorem wi_X7_inputOf : (Jvm.Cond.instanceMethod ({ cls := "ToneGraphModel", name := "inputOf", desc := "(I)I" } : Jvm.MethodName)) ∈ zAll := zt6 (List.mem_of_getElem? (i := 75) (by decide +kernel)) rfl
theorem wcode_X7_inputOf : (Jvm.Cond.code ({ cls := "ToneGraphModel", name := "inputOf", desc := "(I)I" } : Jvm.MethodName) prog_9_method_56_code (4 : Nat) (Option.some Jvm.ClassFile.FieldType.int)) ∈ zAll := zt6 (List.mem_of_getElem? (i := 76) (by decide +kernel)) rfl
theorem wm_X7_183 : (Jvm.Cond.methodLink "ToneGraphModel" (183 : Nat) ({ cls := "ToneGraphModel", name := "cut", desc := "(I)I" } : Jvm.MethodName)) ∈ zAll := zt6 (List.mem_of_getElem? (i := 77) (by decide +kernel)) rfl
theorem ws_X7_cut : (Jvm.Cond.static ({ cls := "ToneGraphModel", name := "cut", desc := "(I)I" } : Jvm.MethodName)) ∈ zAll := zt6 (List.mem_of_getElem? (i := 78) (by decide +kernel)) rfl
theorem wcode_X7_cut : (Jvm.Cond.code ({ cls := "ToneGraphModel", name := "cut", desc := "(I)I" } : Jvm.MethodName) prog_9_method_7_code (1 : Nat) (Option.some Jvm.ClassFile.FieldType.int)) ∈ zAll := zt6 (List.mem_of_getElem? (i := 79) (by decide +kernel)) rfl
theorem wm_X7_195 : (Jvm.Cond.methodLink "ToneGraphModel" (195 : Nat) ({ cls := "ToneGraphModel", name := "limited", desc := "(II)I" } : Jvm.MethodName)) ∈ zAll := zt6 (List.mem_of_getElem? (i := 80) (by decide +kernel)) rfl
theorem ws_X7_limited : (Jvm.Cond.static ({ cls := "ToneGraphModel", name := "limited", desc := "(II)I" } : Jvm.MethodName)) ∈ zAll := zt6 (List.mem_of_getElem? (i := 81) (by decide +kernel)) rfl
theorem wcode_X7_limited : (Jvm.Cond.code ({ cls := "ToneGraphModel", name := "limited", desc := "(II)I" } : Jvm.MethodName) prog_9_method_59_code (3 : Nat) (Option.some Jvm.ClassFile.FieldType.int)) ∈ zAll := zt6 (List.mem_of_getElem? (i := 82) (by decide +kernel)) rfl
theorem wm_X7_186 : (Jvm.Cond.methodLink "ToneGraphModel" (186 : Nat) ({ cls := "ToneGraphModel", name := "size", desc := "(I)I" } : Jvm.MethodName)) ∈ zAll := zt6 (List.mem_of_getElem? (i := 83) (by decide +kernel)) rfl
theorem ws_X7_size : (Jvm.Cond.static ({ cls := "ToneGraphModel", name := "size", desc := "(I)I" } : Jvm.MethodName)) ∈ zAll := zt6 (List.mem_of_getElem? (i := 84) (by decide +kernel)) rfl
theorem wcode_X7_size : (Jvm.Cond.code ({ cls := "ToneGraphModel", name := "size", desc := "(I)I" } : Jvm.MethodName) prog_9_method_8_code (1 : Nat) (Option.some Jvm.ClassFile.FieldType.int)) ∈ zAll := zt6 (List.mem_of_getElem? (i := 85) (by decide +kernel)) rfl
theorem wm_L_217 : (Jvm.Cond.methodLink "ToneGraphLaw" (217 : Nat) ({ cls := "ToneGraphModel", name := "step", desc := "()I" } : Jvm.MethodName)) ∈ zAll := zt6 (List.mem_of_getElem? (i := 86) (by decide +kernel)) rfl
theorem wi_X7_step : (Jvm.Cond.instanceMethod ({ cls := "ToneGraphModel", name := "step", desc := "()I" } : Jvm.MethodName)) ∈ zAll := zt6 (List.mem_of_getElem? (i := 87) (by decide +kernel)) rfl
theorem wv_X7_step : (Jvm.Cond.selects "ToneGraphModel" ({ cls := "ToneGraphModel", name := "step", desc := "()I" } : Jvm.MethodName) ({ cls := "ToneGraphModel", name := "step", desc := "()I" } : Jvm.MethodName)) ∈ zAll := zt6 (List.mem_of_getElem? (i := 88) (by decide +kernel)) rfl
theorem wcode_X7_step : (Jvm.Cond.code ({ cls := "ToneGraphModel", name := "step", desc := "()I" } : Jvm.MethodName) prog_9_method_64_code (1 : Nat) (Option.some Jvm.ClassFile.FieldType.int)) ∈ zAll := zt6 (List.mem_of_getElem? (i := 89) (by decide +kernel)) rfl
theorem wm_L_220 : (Jvm.Cond.methodLink "ToneGraphLaw" (220 : Nat) ({ cls := "ToneGraphModel", name := "ahead", desc := "(I)I" } : Jvm.MethodName)) ∈ zAll := zt6 (List.mem_of_getElem? (i := 90) (by decide +kernel)) rfl
theorem wi_X7_ahead : (Jvm.Cond.instanceMethod ({ cls := "ToneGraphModel", name := "ahead", desc := "(I)I" } : Jvm.MethodName)) ∈ zAll := zt6 (List.mem_of_getElem? (i := 91) (by decide +kernel)) rfl
theorem wv_X7_ahead : (Jvm.Cond.selects "ToneGraphModel" ({ cls := "ToneGraphModel", name := "ahead", desc := "(I)I" } : Jvm.MethodName) ({ cls := "ToneGraphModel", name := "ahead", desc := "(I)I" } : Jvm.MethodName)) ∈ zAll := zt6 (List.mem_of_getElem? (i := 92) (by decide +kernel)) rfl
theorem wcode_X7_ahead : (Jvm.Cond.code ({ cls := "ToneGraphModel", name := "ahead", desc := "(I)I" } : Jvm.MethodName) prog_9_method_66_code (2 : Nat) (Option.some Jvm.ClassFile.FieldType.int)) ∈ zAll := zt6 (List.mem_of_getElem? (i := 93) (by decide +kernel)) rfl
theorem wm_X7_207 : (Jvm.Cond.methodLink "ToneGraphModel" (207 : Nat) ({ cls := "ToneGraphModel", name := "foreseen", desc := "(I)I" } : Jvm.MethodName)) ∈ zAll := zt6 (List.mem_of_getElem? (i := 94) (by decide +kernel)) rfl
theorem wi_X7_foreseen : (Jvm.Cond.instanceMethod ({ cls := "ToneGraphModel", name := "foreseen", desc := "(I)I" } : Jvm.MethodName)) ∈ zAll := zt6 (List.mem_of_getElem? (i := 96) (by decide +kernel)) rfl
theorem wcode_X7_foreseen : (Jvm.Cond.code ({ cls := "ToneGraphModel", name := "foreseen", desc := "(I)I" } : Jvm.MethodName) prog_9_method_65_code (4 : Nat) (Option.some Jvm.ClassFile.FieldType.int)) ∈ zAll := zt6 (List.mem_of_getElem? (i := 97) (by decide +kernel)) rfl
theorem wm_L_223 : (Jvm.Cond.methodLink "ToneGraphLaw" (223 : Nat) ({ cls := "ToneGraphModel", name := "aheadByBlocks", desc := "(II)I" } : Jvm.MethodName)) ∈ zAll := zt6 (List.mem_of_getElem? (i := 98) (by decide +kernel)) rfl
theorem wi_X7_aheadByBlocks : (Jvm.Cond.instanceMethod ({ cls := "ToneGraphModel", name := "aheadByBlocks", desc := "(II)I" } : Jvm.MethodName)) ∈ zAll := zt6 (List.mem_of_getElem? (i := 99) (by decide +kernel)) rfl
theorem wv_X7_aheadByBlocks : (Jvm.Cond.selects "ToneGraphModel" ({ cls := "ToneGraphModel", name := "aheadByBlocks", desc := "(II)I" } : Jvm.MethodName) ({ cls := "ToneGraphModel", name := "aheadByBlocks", desc := "(II)I" } : Jvm.MethodName)) ∈ zAll := zt6 (List.mem_of_getElem? (i := 100) (by decide +kernel)) rfl
theorem wcode_X7_aheadByBlocks : (Jvm.Cond.code ({ cls := "ToneGraphModel", name := "aheadByBlocks", desc := "(II)I" } : Jvm.MethodName) prog_9_method_67_code (3 : Nat) (Option.some Jvm.ClassFile.FieldType.int)) ∈ zAll := zt6 (List.mem_of_getElem? (i := 101) (by decide +kernel)) rfl
theorem wm_L_226 : (Jvm.Cond.methodLink "ToneGraphLaw" (226 : Nat) ({ cls := "ToneGraphModel", name := "heard", desc := "(I)I" } : Jvm.MethodName)) ∈ zAll := zt6 (List.mem_of_getElem? (i := 102) (by decide +kernel)) rfl
theorem wi_X7_heard : (Jvm.Cond.instanceMethod ({ cls := "ToneGraphModel", name := "heard", desc := "(I)I" } : Jvm.MethodName)) ∈ zAll := zt6 (List.mem_of_getElem? (i := 103) (by decide +kernel)) rfl
theorem wv_X7_heard : (Jvm.Cond.selects "ToneGraphModel" ({ cls := "ToneGraphModel", name := "heard", desc := "(I)I" } : Jvm.MethodName) ({ cls := "ToneGraphModel", name := "heard", desc := "(I)I" } : Jvm.MethodName)) ∈ zAll := zt6 (List.mem_of_getElem? (i := 104) (by decide +kernel)) rfl
theorem wcode_X7_heard : (Jvm.Cond.code ({ cls := "ToneGraphModel", name := "heard", desc := "(I)I" } : Jvm.MethodName) prog_9_method_68_code (2 : Nat) (Option.some Jvm.ClassFile.FieldType.int)) ∈ zAll := zt6 (List.mem_of_getElem? (i := 105) (by decide +kernel)) rfl
theorem wm_L_229 : (Jvm.Cond.methodLink "ToneGraphLaw" (229 : Nat) ({ cls := "ToneGraphModel", name := "outputOf", desc := "(I)I" } : Jvm.MethodName)) ∈ zAll := zt6 (List.mem_of_getElem? (i := 106) (by decide +kernel)) rfl
theorem wi_X7_outputOf : (Jvm.Cond.instanceMethod ({ cls := "ToneGraphModel", name := "outputOf", desc := "(I)I" } : Jvm.MethodName)) ∈ zAll := zt6 (List.mem_of_getElem? (i := 107) (by decide +kernel)) rfl
theorem wv_X7_outputOf : (Jvm.Cond.selects "ToneGraphModel" ({ cls := "ToneGraphModel", name := "outputOf", desc := "(I)I" } : Jvm.MethodName) ({ cls := "ToneGraphModel", name := "outputOf", desc := "(I)I" } : Jvm.MethodName)) ∈ zAll := zt6 (List.mem_of_getElem? (i := 108) (by decide +kernel)) rfl
theorem wcode_X7_outputOf : (Jvm.Cond.code ({ cls := "ToneGraphModel", name := "outputOf", desc := "(I)I" } : Jvm.MethodName) prog_9_method_69_code (2 : Nat) (Option.some Jvm.ClassFile.FieldType.int)) ∈ zAll := zt6 (List.mem_of_getElem? (i := 109) (by decide +kernel)) rfl
theorem wm_L_233 : (Jvm.Cond.methodLink "ToneGraphLaw" (233 : Nat) ({ cls := "ToneGraphModel", name := "time", desc := "()I" } : Jvm.MethodName)) ∈ zAll := zt6 (List.mem_of_getElem? (i := 110) (by decide +kernel)) rfl
theorem wi_X7_time : (Jvm.Cond.instanceMethod ({ cls := "ToneGraphModel", name := "time", desc := "()I" } : Jvm.MethodName)) ∈ zAll := zt6 (List.mem_of_getElem? (i := 111) (by decide +kernel)) rfl
theorem wv_X7_time : (Jvm.Cond.selects "ToneGraphModel" ({ cls := "ToneGraphModel", name := "time", desc := "()I" } : Jvm.MethodName) ({ cls := "ToneGraphModel", name := "time", desc := "()I" } : Jvm.MethodName)) ∈ zAll := zt6 (List.mem_of_getElem? (i := 112) (by decide +kernel)) rfl
theorem wcode_X7_time : (Jvm.Cond.code ({ cls := "ToneGraphModel", name := "time", desc := "()I" } : Jvm.MethodName) prog_9_method_70_code (1 : Nat) (Option.some Jvm.ClassFile.FieldType.int)) ∈ zAll := zt6 (List.mem_of_getElem? (i := 113) (by decide +kernel)) rfl
theorem wm_L_237 : (Jvm.Cond.methodLink "ToneGraphLaw" (237 : Nat) ({ cls := "ToneGraphModel", name := "greatest", desc := "()I" } : Jvm.MethodName)) ∈ zAll := zt6 (List.mem_of_getElem? (i := 114) (by decide +kernel)) rfl
theorem wi_X7_greatest : (Jvm.Cond.instanceMethod ({ cls := "ToneGraphModel", name := "greatest", desc := "()I" } : Jvm.MethodName)) ∈ zAll := zt6 (List.mem_of_getElem? (i := 115) (by decide +kernel)) rfl
theorem wv_X7_greatest : (Jvm.Cond.selects "ToneGraphModel" ({ cls := "ToneGraphModel", name := "greatest", desc := "()I" } : Jvm.MethodName) ({ cls := "ToneGraphModel", name := "greatest", desc := "()I" } : Jvm.MethodName)) ∈ zAll := zt6 (List.mem_of_getElem? (i := 116) (by decide +kernel)) rfl
theorem wcode_X7_greatest : (Jvm.Cond.code ({ cls := "ToneGraphModel", name := "greatest", desc := "()I" } : Jvm.MethodName) prog_9_method_71_code (1 : Nat) (Option.some Jvm.ClassFile.FieldType.int)) ∈ zAll := zt6 (List.mem_of_getElem? (i := 117) (by decide +kernel)) rfl
theorem wm_L_242 : (Jvm.Cond.methodLink "ToneGraphLaw" (242 : Nat) ({ cls := "ToneGraphModel", name := "energy", desc := "()J" } : Jvm.MethodName)) ∈ zAll := zt6 (List.mem_of_getElem? (i := 118) (by decide +kernel)) rfl
theorem wi_X7_energy : (Jvm.Cond.instanceMethod ({ cls := "ToneGraphModel", name := "energy", desc := "()J" } : Jvm.MethodName)) ∈ zAll := zt6 (List.mem_of_getElem? (i := 119) (by decide +kernel)) rfl
theorem wv_X7_energy : (Jvm.Cond.selects "ToneGraphModel" ({ cls := "ToneGraphModel", name := "energy", desc := "()J" } : Jvm.MethodName) ({ cls := "ToneGraphModel", name := "energy", desc := "()J" } : Jvm.MethodName)) ∈ zAll := zt6 (List.mem_of_getElem? (i := 120) (by decide +kernel)) rfl
theorem wcode_X7_energy : (Jvm.Cond.code ({ cls := "ToneGraphModel", name := "energy", desc := "()J" } : Jvm.MethodName) prog_9_method_72_code (1 : Nat) (Option.some Jvm.ClassFile.FieldType.long)) ∈ zAll := zt6 (List.mem_of_getElem? (i := 121) (by decide +kernel)) rfl
theorem wm_L_246 : (Jvm.Cond.methodLink "ToneGraphLaw" (246 : Nat) ({ cls := "ToneGraphModel", name := "meanEnergy", desc := "()D" } : Jvm.MethodName)) ∈ zAll := zt6 (List.mem_of_getElem? (i := 122) (by decide +kernel)) rfl
theorem wi_X7_meanEnergy : (Jvm.Cond.instanceMethod ({ cls := "ToneGraphModel", name := "meanEnergy", desc := "()D" } : Jvm.MethodName)) ∈ zAll := zt6 (List.mem_of_getElem? (i := 123) (by decide +kernel)) rfl
theorem wv_X7_meanEnergy : (Jvm.Cond.selects "ToneGraphModel" ({ cls := "ToneGraphModel", name := "meanEnergy", desc := "()D" } : Jvm.MethodName) ({ cls := "ToneGraphModel", name := "meanEnergy", desc := "()D" } : Jvm.MethodName)) ∈ zAll := zt6 (List.mem_of_getElem? (i := 124) (by decide +kernel)) rfl
theorem wcode_X7_meanEnergy : (Jvm.Cond.code ({ cls := "ToneGraphModel", name := "meanEnergy", desc := "()D" } : Jvm.MethodName) prog_9_method_73_code (1 : Nat) (Option.some Jvm.ClassFile.FieldType.double)) ∈ zAll := zt6 (List.mem_of_getElem? (i := 125) (by decide +kernel)) rfl
theorem wm_L_249 : (Jvm.Cond.methodLink "ToneGraphLaw" (249 : Nat) ({ cls := "ToneGraphModel", name := "quietShare", desc := "()F" } : Jvm.MethodName)) ∈ zAll := zt6 (List.mem_of_getElem? (i := 126) (by decide +kernel)) rfl
theorem wi_X7_quietShare : (Jvm.Cond.instanceMethod ({ cls := "ToneGraphModel", name := "quietShare", desc := "()F" } : Jvm.MethodName)) ∈ zAll := zt6 (List.mem_of_getElem? (i := 127) (by decide +kernel)) rfl
theorem wv_X7_quietShare : (Jvm.Cond.selects "ToneGraphModel" ({ cls := "ToneGraphModel", name := "quietShare", desc := "()F" } : Jvm.MethodName) ({ cls := "ToneGraphModel", name := "quietShare", desc := "()F" } : Jvm.MethodName)) ∈ zAll := zt6 (List.mem_of_getElem? (i := 128) (by decide +kernel)) rfl
theorem wcode_X7_quietShare : (Jvm.Cond.code ({ cls := "ToneGraphModel", name := "quietShare", desc := "()F" } : Jvm.MethodName) prog_9_method_74_code (1 : Nat) (Option.some Jvm.ClassFile.FieldType.float)) ∈ zAll := zt6 (List.mem_of_getElem? (i := 129) (by decide +kernel)) rfl
theorem wm_L_254 : (Jvm.Cond.methodLink "ToneGraphLaw" (254 : Nat) ({ cls := "ToneGraphModel", name := "isConsistent", desc := "()Z" } : Jvm.MethodName)) ∈ zAll := zt6 (List.mem_of_getElem? (i := 130) (by decide +kernel)) rfl
theorem wi_X7_isConsistent : (Jvm.Cond.instanceMethod ({ cls := "ToneGraphModel", name := "isConsistent", desc := "()Z" } : Jvm.MethodName)) ∈ zAll := zt6 (List.mem_of_getElem? (i := 131) (by decide +kernel)) rfl
theorem wv_X7_isConsistent : (Jvm.Cond.selects "ToneGraphModel" ({ cls := "ToneGraphModel", name := "isConsistent", desc := "()Z" } : Jvm.MethodName) ({ cls := "ToneGraphModel", name := "isConsistent", desc := "()Z" } : Jvm.MethodName)) ∈ zAll := zt6 (List.mem_of_getElem? (i := 132) (by decide +kernel)) rfl
theorem wcode_X7_isConsistent : (Jvm.Cond.code ({ cls := "ToneGraphModel", name := "isConsistent", desc := "()Z" } : Jvm.MethodName) prog_9_method_76_code (3 : Nat) (Option.some Jvm.ClassFile.FieldType.boolean)) ∈ zAll := zt6 (List.mem_of_getElem? (i := 133) (by decide +kernel)) rfl
theorem wm_X7_210 : (Jvm.Cond.methodLink "ToneGraphModel" (210 : Nat) ({ cls := "ToneGraphModel", name := "placeOf", desc := "(I)I" } : Jvm.MethodName)) ∈ zAll := zt6 (List.mem_of_getElem? (i := 134) (by decide +kernel)) rfl
theorem wi_X7_placeOf : (Jvm.Cond.instanceMethod ({ cls := "ToneGraphModel", name := "placeOf", desc := "(I)I" } : Jvm.MethodName)) ∈ zAll := zt6 (List.mem_of_getElem? (i := 136) (by decide +kernel)) rfl
theorem wcode_X7_placeOf : (Jvm.Cond.code ({ cls := "ToneGraphModel", name := "placeOf", desc := "(I)I" } : Jvm.MethodName) prog_9_method_75_code (3 : Nat) (Option.some Jvm.ClassFile.FieldType.int)) ∈ zAll := zt6 (List.mem_of_getElem? (i := 137) (by decide +kernel)) rfl
theorem wa_long : (Jvm.Cond.arrayClass Jvm.ClassFile.FieldType.long) ∈ zAll := zt6 (List.mem_of_getElem? (i := 138) (by decide +kernel)) rfl
theorem wa_double : (Jvm.Cond.arrayClass Jvm.ClassFile.FieldType.double) ∈ zAll := zt6 (List.mem_of_getElem? (i := 139) (by decide +kernel)) rfl
theorem ztp {w : Cond} (h : w ∈ k2_sels lw_privs) (g : goodWord w = true) : w ∈ zAll := List.mem_filter.mpr ⟨List.mem_append_left _ h, g⟩
theorem wv_X6_perform : Cond.selects "ToneGraph" ⟨"ToneGraph", "perform", "(II)I"⟩ ⟨"ToneGraph", "perform", "(II)I"⟩ ∈ zAll := ztp (List.mem_of_getElem? (i := 0) (by decide +kernel)) rfl
theorem wv_X6_lookAhead : Cond.selects "ToneGraph" ⟨"ToneGraph", "lookAhead", "(II[I)V"⟩ ⟨"ToneGraph", "lookAhead", "(II[I)V"⟩ ∈ zAll := ztp (List.mem_of_getElem? (i := 1) (by decide +kernel)) rfl
theorem wv_Throwable_fillInStackTrace : Cond.selects "java/lang/Throwable" ⟨"java/lang/Throwable", "fillInStackTrace", "(I)Ljava/lang/Throwable;"⟩ ⟨"java/lang/Throwable", "fillInStackTrace", "(I)Ljava/lang/Throwable;"⟩ ∈ zAll := ztp (List.mem_of_getElem? (i := 2) (by decide +kernel)) rfl
theorem wv_X6_refuseFullBoard : Cond.selects "ToneGraph" ⟨"ToneGraph", "refuseFullBoard", "()V"⟩ ⟨"ToneGraph", "refuseFullBoard", "()V"⟩ ∈ zAll := ztp (List.mem_of_getElem? (i := 3) (by decide +kernel)) rfl
theorem wv_X6_refuseNoNode : Cond.selects "ToneGraph" ⟨"ToneGraph", "refuseNoNode", "(I)V"⟩ ⟨"ToneGraph", "refuseNoNode", "(I)V"⟩ ∈ zAll := ztp (List.mem_of_getElem? (i := 4) (by decide +kernel)) rfl
theorem wv_X6_refuseNoWire : Cond.selects "ToneGraph" ⟨"ToneGraph", "refuseNoWire", "(II)V"⟩ ⟨"ToneGraph", "refuseNoWire", "(II)V"⟩ ∈ zAll := ztp (List.mem_of_getElem? (i := 5) (by decide +kernel)) rfl
theorem wv_X6_refuseFree : Cond.selects "ToneGraph" ⟨"ToneGraph", "refuseFree", "(I)V"⟩ ⟨"ToneGraph", "refuseFree", "(I)V"⟩ ∈ zAll := ztp (List.mem_of_getElem? (i := 6) (by decide +kernel)) rfl
theorem wv_X6_refuseSilence : Cond.selects "ToneGraph" ⟨"ToneGraph", "refuseSilence", "()V"⟩ ⟨"ToneGraph", "refuseSilence", "()V"⟩ ∈ zAll := ztp (List.mem_of_getElem? (i := 7) (by decide +kernel)) rfl
theorem wv_X7_lays : Cond.selects "ToneGraphModel" ⟨"ToneGraphModel", "lays", "()V"⟩ ⟨"ToneGraphModel", "lays", "()V"⟩ ∈ zAll := ztp (List.mem_of_getElem? (i := 8) (by decide +kernel)) rfl
theorem wv_X7_canCome : Cond.selects "ToneGraphModel" ⟨"ToneGraphModel", "canCome", "(I)Z"⟩ ⟨"ToneGraphModel", "canCome", "(I)Z"⟩ ∈ zAll := ztp (List.mem_of_getElem? (i := 9) (by decide +kernel)) rfl
theorem wv_X7_isFull : Cond.selects "ToneGraphModel" ⟨"ToneGraphModel", "isFull", "(Z)Z"⟩ ⟨"ToneGraphModel", "isFull", "(Z)Z"⟩ ∈ zAll := ztp (List.mem_of_getElem? (i := 10) (by decide +kernel)) rfl
theorem wv_X7_adds : Cond.selects "ToneGraphModel" ⟨"ToneGraphModel", "adds", "(IIII)I"⟩ ⟨"ToneGraphModel", "adds", "(IIII)I"⟩ ∈ zAll := ztp (List.mem_of_getElem? (i := 11) (by decide +kernel)) rfl
theorem wv_X7_isNode : Cond.selects "ToneGraphModel" ⟨"ToneGraphModel", "isNode", "(I)Z"⟩ ⟨"ToneGraphModel", "isNode", "(I)Z"⟩ ∈ zAll := ztp (List.mem_of_getElem? (i := 12) (by decide +kernel)) rfl
theorem wv_X7_wire : Cond.selects "ToneGraphModel" ⟨"ToneGraphModel", "wire", "(II)I"⟩ ⟨"ToneGraphModel", "wire", "(II)I"⟩ ∈ zAll := ztp (List.mem_of_getElem? (i := 13) (by decide +kernel)) rfl
theorem wv_X7_leads : Cond.selects "ToneGraphModel" ⟨"ToneGraphModel", "leads", "(II)Z"⟩ ⟨"ToneGraphModel", "leads", "(II)Z"⟩ ∈ zAll := ztp (List.mem_of_getElem? (i := 14) (by decide +kernel)) rfl
theorem wv_X7_checked : Cond.selects "ToneGraphModel" ⟨"ToneGraphModel", "checked", "(Z)I"⟩ ⟨"ToneGraphModel", "checked", "(Z)I"⟩ ∈ zAll := ztp (List.mem_of_getElem? (i := 15) (by decide +kernel)) rfl
theorem wv_X7_plain : Cond.selects "ToneGraphModel" ⟨"ToneGraphModel", "plain", "(I)I"⟩ ⟨"ToneGraphModel", "plain", "(I)I"⟩ ∈ zAll := ztp (List.mem_of_getElem? (i := 16) (by decide +kernel)) rfl
theorem wv_X7_hasNoWire : Cond.selects "ToneGraphModel" ⟨"ToneGraphModel", "hasNoWire", "(II)Z"⟩ ⟨"ToneGraphModel", "hasNoWire", "(II)Z"⟩ ∈ zAll := ztp (List.mem_of_getElem? (i := 17) (by decide +kernel)) rfl
theorem wv_X7_voiceFor : Cond.selects "ToneGraphModel" ⟨"ToneGraphModel", "voiceFor", "()I"⟩ ⟨"ToneGraphModel", "voiceFor", "()I"⟩ ∈ zAll := ztp (List.mem_of_getElem? (i := 18) (by decide +kernel)) rfl
theorem wv_X7_plays : Cond.selects "ToneGraphModel" ⟨"ToneGraphModel", "plays", "(I)Z"⟩ ⟨"ToneGraphModel", "plays", "(I)Z"⟩ ∈ zAll := ztp (List.mem_of_getElem? (i := 19) (by decide +kernel)) rfl
theorem wv_X7_at : Cond.selects "ToneGraphModel" ⟨"ToneGraphModel", "at", "(II)I"⟩ ⟨"ToneGraphModel", "at", "(II)I"⟩ ∈ zAll := ztp (List.mem_of_getElem? (i := 20) (by decide +kernel)) rfl
theorem wv_X7_isReleased : Cond.selects "ToneGraphModel" ⟨"ToneGraphModel", "isReleased", "(I)Z"⟩ ⟨"ToneGraphModel", "isReleased", "(I)Z"⟩ ∈ zAll := ztp (List.mem_of_getElem? (i := 21) (by decide +kernel)) rfl
theorem wv_X7_lay : Cond.selects "ToneGraphModel" ⟨"ToneGraphModel", "lay", "(III)V"⟩ ⟨"ToneGraphModel", "lay", "(III)V"⟩ ∈ zAll := ztp (List.mem_of_getElem? (i := 22) (by decide +kernel)) rfl
theorem wv_X7_isHeld : Cond.selects "ToneGraphModel" ⟨"ToneGraphModel", "isHeld", "(I)Z"⟩ ⟨"ToneGraphModel", "isHeld", "(I)Z"⟩ ∈ zAll := ztp (List.mem_of_getElem? (i := 23) (by decide +kernel)) rfl
theorem wv_X7_releases : Cond.selects "ToneGraphModel" ⟨"ToneGraphModel", "releases", "(I)V"⟩ ⟨"ToneGraphModel", "releases", "(I)V"⟩ ∈ zAll := ztp (List.mem_of_getElem? (i := 24) (by decide +kernel)) rfl
theorem wv_X7_levelAt : Cond.selects "ToneGraphModel" ⟨"ToneGraphModel", "levelAt", "(I)I"⟩ ⟨"ToneGraphModel", "levelAt", "(I)I"⟩ ∈ zAll := ztp (List.mem_of_getElem? (i := 25) (by decide +kernel)) rfl
theorem wv_X7_isSilent : Cond.selects "ToneGraphModel" ⟨"ToneGraphModel", "isSilent", "(I)Z"⟩ ⟨"ToneGraphModel", "isSilent", "(I)Z"⟩ ∈ zAll := ztp (List.mem_of_getElem? (i := 26) (by decide +kernel)) rfl
theorem wv_X7_sampled : Cond.selects "ToneGraphModel" ⟨"ToneGraphModel", "sampled", "()I"⟩ ⟨"ToneGraphModel", "sampled", "()I"⟩ ∈ zAll := ztp (List.mem_of_getElem? (i := 27) (by decide +kernel)) rfl
theorem wv_X7_samples : Cond.selects "ToneGraphModel" ⟨"ToneGraphModel", "samples", "()I"⟩ ⟨"ToneGraphModel", "samples", "()I"⟩ ∈ zAll := ztp (List.mem_of_getElem? (i := 28) (by decide +kernel)) rfl
theorem wv_X7_sounds : Cond.selects "ToneGraphModel" ⟨"ToneGraphModel", "sounds", "(I)I"⟩ ⟨"ToneGraphModel", "sounds", "(I)I"⟩ ∈ zAll := ztp (List.mem_of_getElem? (i := 29) (by decide +kernel)) rfl
theorem wv_X7_sung : Cond.selects "ToneGraphModel" ⟨"ToneGraphModel", "sung", "()I"⟩ ⟨"ToneGraphModel", "sung", "()I"⟩ ∈ zAll := ztp (List.mem_of_getElem? (i := 30) (by decide +kernel)) rfl
theorem wv_X7_sings : Cond.selects "ToneGraphModel" ⟨"ToneGraphModel", "sings", "(I)I"⟩ ⟨"ToneGraphModel", "sings", "(I)I"⟩ ∈ zAll := ztp (List.mem_of_getElem? (i := 31) (by decide +kernel)) rfl
theorem wv_X7_filtered : Cond.selects "ToneGraphModel" ⟨"ToneGraphModel", "filtered", "(I)I"⟩ ⟨"ToneGraphModel", "filtered", "(I)I"⟩ ∈ zAll := ztp (List.mem_of_getElem? (i := 32) (by decide +kernel)) rfl
theorem wv_X7_inputOf : Cond.selects "ToneGraphModel" ⟨"ToneGraphModel", "inputOf", "(I)I"⟩ ⟨"ToneGraphModel", "inputOf", "(I)I"⟩ ∈ zAll := ztp (List.mem_of_getElem? (i := 33) (by decide +kernel)) rfl
theorem wv_X7_foreseen : Cond.selects "ToneGraphModel" ⟨"ToneGraphModel", "foreseen", "(I)I"⟩ ⟨"ToneGraphModel", "foreseen", "(I)I"⟩ ∈ zAll := ztp (List.mem_of_getElem? (i := 34) (by decide +kernel)) rfl
theorem wv_X7_placeOf : Cond.selects "ToneGraphModel" ⟨"ToneGraphModel", "placeOf", "(I)I"⟩ ⟨"ToneGraphModel", "placeOf", "(I)I"⟩ ∈ zAll := ztp (List.mem_of_getElem? (i := 35) (by decide +kernel)) rfl
theorem inX0 : ∀ w ∈ u_ws RX0 TX0 14, w ∈ zAll := by decide +kernel
theorem inX1 : ∀ w ∈ u_ws RX1 TX1 3, w ∈ zAll := by decide +kernel
theorem inX2 : ∀ w ∈ u_ws RX2 TX2 4, w ∈ zAll := by decide +kernel
theorem inX3 : ∀ w ∈ u_ws RX3 TX3 5, w ∈ zAll := by decide +kernel
theorem inX4 : ∀ w ∈ u_ws RX4 TX4 7, w ∈ zAll := by decide +kernel
theorem inX5 : ∀ w ∈ u_ws RX5 TX5 13, w ∈ zAll := by decide +kernel
theorem inX6 : ∀ w ∈ u_ws RX6 TX6 8, w ∈ zAll := by decide +kernel
theorem inX7 : ∀ w ∈ u_ws RX7 TX7 26, w ∈ zAll := by decide +kernel
theorem goodAll {a : Cond} {y : MethodName} {cc : ByteArray} {n : Nat} {r : Option FieldType} (h : Cond.code y cc n r ∈ zAll) : GoodIn zAll (Cond.code y cc n r :: zAll) := fun w hw => by
  have h1 : w ∈ zAll := (List.mem_cons.mp hw).elim (fun e => by rw [e]; exact h) id
  exact ⟨h1, good_of_word (List.mem_filter.mp h1).2⟩
end
section
/-! V: the walk's judgement, the world a predicate on the heap -/
abbrev zE : Type := va_G × (Nat → ClassId)
def zTys (E : zE) : List (ClassId × FieldType) := [(E.2 0, .char), (E.2 1, .int), (E.2 2, .boolean), (E.2 3, .object "ToneGraph$Voice"), (E.2 4, .array .int), (E.2 5, .long), (E.2 6, .double)]
def zA (b : Nat) : Nat → Prop := fun q => b ≤ q
def zstp (j : Nat) : Int32 := ([64, 68, 72, 76, 81, 85, 90, 96, 102, 108, 114, 121] : List Int32).getD j 0
def zT (b : Nat) (U : State) (H : Heap) : Prop := (∃ t : Nat, va_Z "ToneGraph" "LOWEST_STEPS" "[I" (.ref t) (zA b) U H ∧ va_T .int t 12 (fun j => .int (zstp j)) (zA b) U H) ∧ vx_Zq Bundle.tN "UNASSIGNED_STACK" Bundle.steD (zA b) U H ∧ vx_Zq Bundle.tN "SUPPRESSED_SENTINEL" Bundle.listD (zA b) U H
theorem zT.moved {b : Nat} {u U : State} {H : Heap} (hvm : u.vm.Alike U.vm) (h : zT b u H) : zT b U H := by
  obtain ⟨⟨t, h1, h2⟩, h3, h4⟩ := h
  exact ⟨⟨t, va_Z.moved hvm h1, va_T.moved hvm h2⟩, vx_Zq.moved hvm h3, vx_Zq.moved hvm h4⟩
theorem zT.kept {b : Nat} {U : State} {H H1 : Heap} (h : zT b U H) (hq : ∀ a : Nat, a < H.size → ¬ zA b a → H1[a]? = H[a]?) : zT b U H1 := by
  obtain ⟨⟨t, h1, h2⟩, h3, h4⟩ := h
  exact ⟨⟨t, h1.kept hq, h2.kept hq⟩, h3.kept hq, h4.kept hq⟩

def zStrs : List (Nat × String) := [(93, "a wire of 0 percent"), (107, "no room for this wire"), (120, "a wire that may not lead there"), (129, "no such wire"), (135, "not a gain"), (162, "no such wave"), (184, "no such note"), (231, "not so many samples have been played"), (269, "a number is out of range"), (273, "no such voice"), (276, "no more nodes"), (278, "no such node"), (284, "the voice is free"), (288, "no sample has been played")]
def zR (U : State) : Prop := ∀ q ∈ zStrs, ∃ a : Nat, vk_R RX6 q.1 q.2 a U
def zNst : List (String × Nat × MethodName × String) := [(RX6, 30, yX3_init, RX6), (RX1, 17, yX5_init, RX6), (RX4, 112, yX6_cut, RX6), (RX4, 122, yX6_partOf, RX6), (RX5, 38, yX6_stepOfKey, RX6), (RX5, 73, yX6_partOf, RX6)]
def zN (U : State) : Prop := ∀ q ∈ zNst, va_Nw (.methodLinkNest q.1 q.2.1 q.2.2.1 q.2.2.2) U
def zO (U : State) : Prop := va_AO "ToneGraph$Voice" U ∧ va_AOA .int U
def zXs : List String := ["java/lang/IllegalArgumentException", "java/lang/IllegalStateException", "java/lang/UnsupportedOperationException", "java/lang/IndexOutOfBoundsException", "java/util/NoSuchElementException", "java/lang/ArithmeticException"]
def zNcs : List (String × String) := [("java/lang/IllegalStateException", "java/lang/IllegalArgumentException"), ("java/lang/IllegalArgumentException", "java/lang/IndexOutOfBoundsException"), ("java/lang/IllegalStateException", "java/lang/IndexOutOfBoundsException"), ("java/lang/UnsupportedOperationException", "java/lang/IndexOutOfBoundsException"), ("java/lang/UnsupportedOperationException", "java/lang/IllegalArgumentException"), ("java/lang/UnsupportedOperationException", "java/lang/IllegalStateException"), ("java/util/NoSuchElementException", "java/lang/IndexOutOfBoundsException"), ("java/lang/IllegalArgumentException", "java/lang/UnsupportedOperationException"), ("java/util/NoSuchElementException", "java/lang/IllegalArgumentException")]
def zX9 (U : State) : Prop := (∀ X ∈ zXs, va_Nw (.castable X X) U) ∧ ∀ q ∈ zNcs, va_Nc q.1 q.2 U
def zI (E : zE) (b : Nat) (U : State) (H : Heap) : Prop := va_K E.1 vwCl (zTys E) U ∧ zT b U H ∧ zR U ∧ zN U ∧ zO U ∧ zX9 U
theorem zI.to {E : zE} {b : Nat} {s U : State} {H0 H : Heap} {locs : List Loc} (h : zI E b s H0) (hW : s.WarmedH U.vm) (hS : va_S (zA b) H0 H locs) : zI E b U H := by
  obtain ⟨h1, h2, h3, h4, ⟨h5, h6⟩, h7, h8⟩ := h
  refine ⟨va_K.moved hW.alike h1, (h2.kept hS.2.1).moved hW.alike, fun q hq => ?_, fun q hq => va_Nw.warmM hW (h4 q hq), ⟨va_AO.moved hW.alike h5, va_AOA.moved hW.alike h6⟩, fun X hX => va_Nw.warmC hW (h7 X hX), fun q hq => va_Nc.moved hW.alike (h8 q hq)⟩
  obtain ⟨a, ha⟩ := h3 q hq
  exact ⟨a, vk_R.warm hW ha⟩
def zV (p : Program) (l : Launch) (e : Env) (R : Room) (s : State) (m : MethodId) (args : Array Value) (below : List Frame) (meth : Method) (c : Code) (Q : State → Prop) (nL b : Nat) (P : Heap → Prop) (pc : Nat) (L : List (Nat × Value)) (st : List Value) (k n : Nat) : Prop :=
  ∀ (H : Heap) (locs : List Loc) (ls : Array Slot), P H → va_S (zA b) s.heap H locs → lv_has ls nL L → W p l e R s m args below meth c H locs k n Q (F0 m pc ls st)
/-- what a body knows of its start -/
def zC (p : Program) (s : State) (m : MethodId) (args : Array Value) (meth : Method) (c : Code) (cc : ByteArray) (nL : Nat) (own : String) (E : zE) (b : Nat) : Prop :=
  p.tables.exec = Jvm.exec ∧ c.code = cc ∧ c.maxLocals = nL ∧ s.vm.findClass own = some m.cls ∧ (∀ w ∈ zAll, w.before args s = true) ∧ zI E b s s.heap ∧ meth.locks = false ∧ b ≤ s.heap.size
/-- contracts: an answer and a world behind it -/
def zQ {S : Type} (b : Nat) (post : Option Value → S → Prop) (B : S → Heap → Prop) : Array Value → State → Outcome → State → Prop := fun _ st oc t => (∃ (v : Option Value) (u : S), oc = .returned v ∧ post v u ∧ B u t.heap) ∧ va_F (zA b) st t
def zPc (E : zE) (b : Nat) (As : List Value) (P : Heap → Prop) : Array Value → State → Prop := va_Pc As (fun U => (zI E b U U.heap ∧ b ≤ U.heap.size) ∧ P U.heap)
def zM {S : Type} (l : Launch) (y : MethodName) (ws : List Cond) (rm : Room) (E : zE) (b : Nat) (As : List Value) (P : Heap → Prop) (post : Option Value → S → Prop) (B : S → Heap → Prop) (mc ms : Nat) : Prop :=
  Met l y ws rm (zPc E b As P) (zQ b post B) mc ms (zA b)
/-- .. or an exception of a class that px allows, the world as it was -/
def zXC (b : Nat) (px : String → Prop) (P : Heap → Prop) : String → State → State → Prop := fun E st t => px E ∧ P t.heap ∧ va_F (zA b) st t
def zX {S : Type} (l : Launch) (y : MethodName) (ws : List Cond) (rm : Room) (E : zE) (b : Nat) (As : List Value) (P : Heap → Prop) (post : Option Value → S → Prop) (B : S → Heap → Prop) (px : String → Prop) (mc ms : Nat) : Prop :=
  vx_Met l y ws rm (zPc E b As P) (zQ b post B) (zXC b px P) mc ms (zA b)
def zVX (p : Program) (l : Launch) (e : Env) (R : Room) (s : State) (m : MethodId) (args : Array Value) (below : List Frame) (meth : Method) (c : Code) (Q : State → Prop) (nL b : Nat) (P : Heap → Prop) (pc : Nat) (L : List (Nat × Value)) (st : List Value) (k n : Nat) (X : String) : Prop :=
  ∀ (H : Heap) (locs : List Loc) (ls : Array Slot) (ce : Cell) (q9 : Addr), P H → va_S (zA b) s.heap H locs → lv_has ls nL L → H[q9]? = some ce → ce.vm = .none → s.vm.findClass X = some ce.cls → vx_W p l e R s m args below meth c H locs k n Q (F0 m pc ls st) q9
/-- the room of a method that calls d deep -/
def zRm (d mc ms : Nat) : Room := { frames := d, cells := mc, slots := ms, locals := 40 * d }
section ZV
variable {p : Program} {l : Launch} {e : Env} {R : Room} {s : State} {m : MethodId} {args : Array Value} {below : List Frame} {meth : Method} {c : Code} {Q : State → Prop} {nL b : Nat} {P : Heap → Prop} {pc : Nat} {L : List (Nat × Value)} {st : List Value} {k n : Nat}
variable {cc : ByteArray} {own : String} {E : zE}
theorem zv_iconst (B : zC p s m args meth c cc nL own E b) {z : Int} {v : Int32} (hv : Int32.ofInt z = v) (d : decode cc pc = .ok (.iconst z, 1)) (kk : zV p l e R s m args below meth c Q nL b P (pc + 1) L (.int v :: st) k n) : zV p l e R s m args below meth c Q nL b P pc L st k n := fun H locs ls hP hS hl => lv_iconst B.1 B.2.1 d hv (kk H locs ls hP hS hl)
theorem zv_bipush (B : zC p s m args meth c cc nL own E b) {z : Int} {v : Int32} (hv : (Int8.ofInt z).toInt32 = v) (d : decode cc pc = .ok (.bipush z, 2)) (kk : zV p l e R s m args below meth c Q nL b P (pc + 2) L (.int v :: st) k n) : zV p l e R s m args below meth c Q nL b P pc L st k n := fun H locs ls hP hS hl => lv_bipush B.1 B.2.1 d hv (kk H locs ls hP hS hl)
theorem zv_sipush (B : zC p s m args meth c cc nL own E b) {z : Int} {v : Int32} (hv : (Int16.ofInt z).toInt32 = v) (d : decode cc pc = .ok (.sipush z, 3)) (kk : zV p l e R s m args below meth c Q nL b P (pc + 3) L (.int v :: st) k n) : zV p l e R s m args below meth c Q nL b P pc L st k n := fun H locs ls hP hS hl => lv_sipush B.1 B.2.1 d hv (kk H locs ls hP hS hl)
theorem zv_ldc (B : zC p s m args meth c cc nL own E b) {i : Nat} {v : Int32} (hc : (Jvm.Cond.constant own i v).before args s = true) (d : decode cc pc = .ok (.ldc i, 2)) (kk : zV p l e R s m args below meth c Q nL b P (pc + 2) L (.int v :: st) k n) : zV p l e R s m args below meth c Q nL b P pc L st k n := fun H locs ls hP hS hl => lv_ldc B.1 B.2.1 B.2.2.2.1 hc d (kk H locs ls hP hS hl)
theorem zv_ldcw (B : zC p s m args meth c cc nL own E b) {i : Nat} {v : Int32} (hc : (Jvm.Cond.constant own i v).before args s = true) (d : decode cc pc = .ok (.ldc_w i, 3)) (kk : zV p l e R s m args below meth c Q nL b P (pc + 3) L (.int v :: st) k n) : zV p l e R s m args below meth c Q nL b P pc L st k n := fun H locs ls hP hS hl => lv_ldcw B.1 B.2.1 B.2.2.2.1 hc d (kk H locs ls hP hS hl)
theorem zv_lconst (B : zC p s m args meth c cc nL own E b) {z : Fin 2} {v : Int64} (hv : Int64.ofNat (z : Nat) = v) (d : decode cc pc = .ok (.lconst z, 1)) (kk : zV p l e R s m args below meth c Q nL b P (pc + 1) L (.long v :: st) k n) : zV p l e R s m args below meth c Q nL b P pc L st k n := fun H locs ls hP hS hl => lv_lconst B.1 B.2.1 d hv (kk H locs ls hP hS hl)
theorem zv_iload_n (B : zC p s m args meth c cc nL own E b) {z : Fin 4} {x : Int32} (j : Nat) (hL : L[j]? = some ((z : Nat), .int x)) (d : decode cc pc = .ok (.iload_n z, 1)) (kk : zV p l e R s m args below meth c Q nL b P (pc + 1) L (.int x :: st) k n) : zV p l e R s m args below meth c Q nL b P pc L st k n := fun H locs ls hP hS hl => lv_iload_n B.1 B.2.1 d rfl (lv_at hl j hL) (kk H locs ls hP hS hl)
theorem zv_iload (B : zC p s m args meth c cc nL own E b) {z : Nat} {x : Int32} (j : Nat) (hL : L[j]? = some (z, .int x)) (d : decode cc pc = .ok (.iload z, 2)) (kk : zV p l e R s m args below meth c Q nL b P (pc + 2) L (.int x :: st) k n) : zV p l e R s m args below meth c Q nL b P pc L st k n := fun H locs ls hP hS hl => lv_iload B.1 B.2.1 d (lv_at hl j hL) (kk H locs ls hP hS hl)
theorem zv_aload_n (B : zC p s m args meth c cc nL own E b) {z : Fin 4} {x : Nat} (j : Nat) (hL : L[j]? = some ((z : Nat), .ref x)) (d : decode cc pc = .ok (.aload_n z, 1)) (kk : zV p l e R s m args below meth c Q nL b P (pc + 1) L (.ref x :: st) k n) : zV p l e R s m args below meth c Q nL b P pc L st k n := fun H locs ls hP hS hl => lv_aload_n B.1 B.2.1 d rfl (lv_at hl j hL) (kk H locs ls hP hS hl)
theorem zv_aload (B : zC p s m args meth c cc nL own E b) {z : Nat} {x : Nat} (j : Nat) (hL : L[j]? = some (z, .ref x)) (d : decode cc pc = .ok (.aload z, 2)) (kk : zV p l e R s m args below meth c Q nL b P (pc + 2) L (.ref x :: st) k n) : zV p l e R s m args below meth c Q nL b P pc L st k n := fun H locs ls hP hS hl => lv_aload B.1 B.2.1 d (lv_at hl j hL) (kk H locs ls hP hS hl)
theorem zv_istore_n (B : zC p s m args meth c cc nL own E b) {z : Fin 4} {x : Int32} {L' : List (Nat × Value)} (hn : (z : Nat) < nL) (hL : ((z : Nat), Value.int x) :: L.filter (fun q => !(q.1 == (z : Nat)) && !(q.1 + 1 == (z : Nat) && q.2.category == 2)) = L') (d : decode cc pc = .ok (.istore_n z, 1)) (kk : zV p l e R s m args below meth c Q nL b P (pc + 1) L' st k n) : zV p l e R s m args below meth c Q nL b P pc L (.int x :: st) k n := fun H locs ls hP hS hl => lv_istore_n B.1 B.2.1 d rfl hl hn hL (fun ls' hl' => kk H locs ls' hP hS hl')
theorem zv_istore (B : zC p s m args meth c cc nL own E b) {z : Nat} {x : Int32} {L' : List (Nat × Value)} (hn : z < nL) (hL : (z, Value.int x) :: L.filter (fun q => !(q.1 == z) && !(q.1 + 1 == z && q.2.category == 2)) = L') (d : decode cc pc = .ok (.istore z, 2)) (kk : zV p l e R s m args below meth c Q nL b P (pc + 2) L' st k n) : zV p l e R s m args below meth c Q nL b P pc L (.int x :: st) k n := fun H locs ls hP hS hl => lv_istore B.1 B.2.1 d hl hn hL (fun ls' hl' => kk H locs ls' hP hS hl')
theorem zv_astore_n (B : zC p s m args meth c cc nL own E b) {z : Fin 4} {x : Nat} {L' : List (Nat × Value)} (hn : (z : Nat) < nL) (hL : ((z : Nat), Value.ref x) :: L.filter (fun q => !(q.1 == (z : Nat)) && !(q.1 + 1 == (z : Nat) && q.2.category == 2)) = L') (d : decode cc pc = .ok (.astore_n z, 1)) (kk : zV p l e R s m args below meth c Q nL b P (pc + 1) L' st k n) : zV p l e R s m args below meth c Q nL b P pc L (.ref x :: st) k n := fun H locs ls hP hS hl => lv_astore_n B.1 B.2.1 d rfl hl hn hL (fun ls' hl' => kk H locs ls' hP hS hl')
theorem zv_astore (B : zC p s m args meth c cc nL own E b) {z : Nat} {x : Nat} {L' : List (Nat × Value)} (hn : z < nL) (hL : (z, Value.ref x) :: L.filter (fun q => !(q.1 == z) && !(q.1 + 1 == z && q.2.category == 2)) = L') (d : decode cc pc = .ok (.astore z, 2)) (kk : zV p l e R s m args below meth c Q nL b P (pc + 2) L' st k n) : zV p l e R s m args below meth c Q nL b P pc L (.ref x :: st) k n := fun H locs ls hP hS hl => lv_astore B.1 B.2.1 d hl hn hL (fun ls' hl' => kk H locs ls' hP hS hl')
theorem zv_iinc (B : zC p s m args meth c cc nL own E b) {z : Nat} {a : Int} {x v : Int32} {L' : List (Nat × Value)} (j : Nat) (hj : L[j]? = some (z, .int x)) (hv : x + Int32.ofInt a = v) (hn : z < nL) (hL : (z, Value.int v) :: L.filter (fun q => !(q.1 == z) && !(q.1 + 1 == z && q.2.category == 2)) = L') (d : decode cc pc = .ok (.iinc z a, 3)) (kk : zV p l e R s m args below meth c Q nL b P (pc + 3) L' st k n) : zV p l e R s m args below meth c Q nL b P pc L st k n := fun H locs ls hP hS hl => lv_iinc B.1 B.2.1 d hl hj hv hn hL (fun ls' hl' => kk H locs ls' hP hS hl')
theorem zv_iadd (B : zC p s m args meth c cc nL own E b) {x y : Int32} (d : decode cc pc = .ok (.iadd, 1)) (kk : zV p l e R s m args below meth c Q nL b P (pc + 1) L (.int (x + y) :: st) k n) : zV p l e R s m args below meth c Q nL b P pc L (.int y :: .int x :: st) k n := fun H locs ls hP hS hl => lv_iadd B.1 B.2.1 d (kk H locs ls hP hS hl)
theorem zv_isub (B : zC p s m args meth c cc nL own E b) {x y : Int32} (d : decode cc pc = .ok (.isub, 1)) (kk : zV p l e R s m args below meth c Q nL b P (pc + 1) L (.int (x - y) :: st) k n) : zV p l e R s m args below meth c Q nL b P pc L (.int y :: .int x :: st) k n := fun H locs ls hP hS hl => lv_isub B.1 B.2.1 d (kk H locs ls hP hS hl)
theorem zv_imul (B : zC p s m args meth c cc nL own E b) {x y : Int32} (d : decode cc pc = .ok (.imul, 1)) (kk : zV p l e R s m args below meth c Q nL b P (pc + 1) L (.int (x * y) :: st) k n) : zV p l e R s m args below meth c Q nL b P pc L (.int y :: .int x :: st) k n := fun H locs ls hP hS hl => lv_imul B.1 B.2.1 d (kk H locs ls hP hS hl)
theorem zv_iand (B : zC p s m args meth c cc nL own E b) {x y : Int32} (d : decode cc pc = .ok (.iand, 1)) (kk : zV p l e R s m args below meth c Q nL b P (pc + 1) L (.int (x &&& y) :: st) k n) : zV p l e R s m args below meth c Q nL b P pc L (.int y :: .int x :: st) k n := fun H locs ls hP hS hl => lv_iand B.1 B.2.1 d (kk H locs ls hP hS hl)
theorem zv_ior (B : zC p s m args meth c cc nL own E b) {x y : Int32} (d : decode cc pc = .ok (.ior, 1)) (kk : zV p l e R s m args below meth c Q nL b P (pc + 1) L (.int (x ||| y) :: st) k n) : zV p l e R s m args below meth c Q nL b P pc L (.int y :: .int x :: st) k n := fun H locs ls hP hS hl => lv_ior B.1 B.2.1 d (kk H locs ls hP hS hl)
theorem zv_ixor (B : zC p s m args meth c cc nL own E b) {x y : Int32} (d : decode cc pc = .ok (.ixor, 1)) (kk : zV p l e R s m args below meth c Q nL b P (pc + 1) L (.int (x ^^^ y) :: st) k n) : zV p l e R s m args below meth c Q nL b P pc L (.int y :: .int x :: st) k n := fun H locs ls hP hS hl => lv_ixor B.1 B.2.1 d (kk H locs ls hP hS hl)
theorem zv_ishl (B : zC p s m args meth c cc nL own E b) {x y : Int32} (d : decode cc pc = .ok (.ishl, 1)) (kk : zV p l e R s m args below meth c Q nL b P (pc + 1) L (.int (x <<< (y &&& 31)) :: st) k n) : zV p l e R s m args below meth c Q nL b P pc L (.int y :: .int x :: st) k n := fun H locs ls hP hS hl => lv_ishl B.1 B.2.1 d (kk H locs ls hP hS hl)
theorem zv_ishr (B : zC p s m args meth c cc nL own E b) {x y : Int32} (d : decode cc pc = .ok (.ishr, 1)) (kk : zV p l e R s m args below meth c Q nL b P (pc + 1) L (.int (x >>> (y &&& 31)) :: st) k n) : zV p l e R s m args below meth c Q nL b P pc L (.int y :: .int x :: st) k n := fun H locs ls hP hS hl => lv_ishr B.1 B.2.1 d (kk H locs ls hP hS hl)
theorem zv_idiv (B : zC p s m args meth c cc nL own E b) {x y : Int32} (h0 : ¬ y = 0) (d : decode cc pc = .ok (.idiv, 1)) (kk : zV p l e R s m args below meth c Q nL b P (pc + 1) L (.int (x / y) :: st) k n) : zV p l e R s m args below meth c Q nL b P pc L (.int y :: .int x :: st) k n := fun H locs ls hP hS hl => lv_idiv B.1 B.2.1 d h0 (kk H locs ls hP hS hl)
theorem zv_irem (B : zC p s m args meth c cc nL own E b) {x y : Int32} (h0 : ¬ y = 0) (d : decode cc pc = .ok (.irem, 1)) (kk : zV p l e R s m args below meth c Q nL b P (pc + 1) L (.int (x - x / y * y) :: st) k n) : zV p l e R s m args below meth c Q nL b P pc L (.int y :: .int x :: st) k n := fun H locs ls hP hS hl => lv_irem B.1 B.2.1 d h0 (kk H locs ls hP hS hl)
theorem zv_ineg (B : zC p s m args meth c cc nL own E b) {x : Int32} (d : decode cc pc = .ok (.ineg, 1)) (kk : zV p l e R s m args below meth c Q nL b P (pc + 1) L (.int (-x) :: st) k n) : zV p l e R s m args below meth c Q nL b P pc L (.int x :: st) k n := fun H locs ls hP hS hl => lv_ineg B.1 B.2.1 d (kk H locs ls hP hS hl)
theorem zv_i2l (B : zC p s m args meth c cc nL own E b) {x : Int32} (d : decode cc pc = .ok (.i2l, 1)) (kk : zV p l e R s m args below meth c Q nL b P (pc + 1) L (.long x.toInt64 :: st) k n) : zV p l e R s m args below meth c Q nL b P pc L (.int x :: st) k n := fun H locs ls hP hS hl => lv_i2l B.1 B.2.1 d rfl (kk H locs ls hP hS hl)
theorem zv_i2c (B : zC p s m args meth c cc nL own E b) {x : Int32} (d : decode cc pc = .ok (.i2c, 1)) (kk : zV p l e R s m args below meth c Q nL b P (pc + 1) L (.int (x.toUInt32 % 65536).toInt32 :: st) k n) : zV p l e R s m args below meth c Q nL b P pc L (.int x :: st) k n := fun H locs ls hP hS hl => lv_i2c B.1 B.2.1 d rfl (kk H locs ls hP hS hl)
theorem zv_i2d (B : zC p s m args meth c cc nL own E b) {x : Int32} (d : decode cc pc = .ok (.i2d, 1)) (kk : zV p l e R s m args below meth c Q nL b P (pc + 1) L (.double (FP.i2d x) :: st) k n) : zV p l e R s m args below meth c Q nL b P pc L (.int x :: st) k n := fun H locs ls hP hS hl => lv_i2d B.1 B.2.1 d (kk H locs ls hP hS hl)
theorem zv_l2d (B : zC p s m args meth c cc nL own E b) {x : Int64} (d : decode cc pc = .ok (.l2d, 1)) (kk : zV p l e R s m args below meth c Q nL b P (pc + 1) L (.double (FP.l2d x) :: st) k n) : zV p l e R s m args below meth c Q nL b P pc L (.long x :: st) k n := fun H locs ls hP hS hl => lv_l2d B.1 B.2.1 d (kk H locs ls hP hS hl)
theorem zv_i2f (B : zC p s m args meth c cc nL own E b) {x : Int32} (d : decode cc pc = .ok (.i2f, 1)) (kk : zV p l e R s m args below meth c Q nL b P (pc + 1) L (.float (FP.i2f x) :: st) k n) : zV p l e R s m args below meth c Q nL b P pc L (.int x :: st) k n := fun H locs ls hP hS hl => lv_i2f B.1 B.2.1 d (kk H locs ls hP hS hl)
theorem zv_ladd (B : zC p s m args meth c cc nL own E b) {x y : Int64} (d : decode cc pc = .ok (.ladd, 1)) (kk : zV p l e R s m args below meth c Q nL b P (pc + 1) L (.long (x + y) :: st) k n) : zV p l e R s m args below meth c Q nL b P pc L (.long y :: .long x :: st) k n := fun H locs ls hP hS hl => lv_ladd B.1 B.2.1 d (kk H locs ls hP hS hl)
theorem zv_lmul (B : zC p s m args meth c cc nL own E b) {x y : Int64} (d : decode cc pc = .ok (.lmul, 1)) (kk : zV p l e R s m args below meth c Q nL b P (pc + 1) L (.long (x * y) :: st) k n) : zV p l e R s m args below meth c Q nL b P pc L (.long y :: .long x :: st) k n := fun H locs ls hP hS hl => lv_lmul B.1 B.2.1 d (kk H locs ls hP hS hl)
theorem zv_lcmp (B : zC p s m args meth c cc nL own E b) {x y : Int64} (d : decode cc pc = .ok (.lcmp, 1)) (kk : zV p l e R s m args below meth c Q nL b P (pc + 1) L (.int (lg_cmp x y) :: st) k n) : zV p l e R s m args below meth c Q nL b P pc L (.long y :: .long x :: st) k n := fun H locs ls hP hS hl => W.lcmp B.1 B.2.1 d (kk H locs ls hP hS hl)
theorem zv_dup (B : zC p s m args meth c cc nL own E b) {va : Value} (h1 : va.category = 1) (d : decode cc pc = .ok (.dup, 1)) (kk : zV p l e R s m args below meth c Q nL b P (pc + 1) L (va :: va :: st) k n) : zV p l e R s m args below meth c Q nL b P pc L (va :: st) k n := fun H locs ls hP hS hl => lv_dup B.1 B.2.1 d h1 (kk H locs ls hP hS hl)
theorem zv_dup2 (B : zC p s m args meth c cc nL own E b) {va vb : Value} (h1 : va.category = 1) (h2 : vb.category = 1) (d : decode cc pc = .ok (.dup2, 1)) (kk : zV p l e R s m args below meth c Q nL b P (pc + 1) L (va :: vb :: va :: vb :: st) k n) : zV p l e R s m args below meth c Q nL b P pc L (va :: vb :: st) k n := fun H locs ls hP hS hl => lv_dup2_11 B.1 B.2.1 d h1 h2 (kk H locs ls hP hS hl)
theorem zv_goto (B : zC p s m args meth c cc nL own E b) {off : Int} {tgt : Nat} (ht : (pc : Int) + off = (tgt : Int)) (d : decode cc pc = .ok (.goto off, 3)) (kk : zV p l e R s m args below meth c Q nL b P tgt L st k n) : zV p l e R s m args below meth c Q nL b P pc L st k n := fun H locs ls hP hS hl => lv_goto B.1 B.2.1 d ht (kk H locs ls hP hS hl)
theorem zv_icmp_eq (B : zC p s m args meth c cc nL own E b) {x y : Int32} {off : Int} {tgt : Nat} (d : decode cc pc = .ok (.if_icmp .eq off, 3)) (ht : (pc : Int) + off = (tgt : Int)) (kt : x = y → zV p l e R s m args below meth c Q nL b P tgt L st k n) (kf : ¬ x = y → zV p l e R s m args below meth c Q nL b P (pc + 3) L st k n) : zV p l e R s m args below meth c Q nL b P pc L (.int y :: .int x :: st) k n := fun H locs ls hP hS hl => lv_icmp_eq B.1 B.2.1 d ht (fun h => kt h H locs ls hP hS hl) (fun h => kf h H locs ls hP hS hl)
theorem zv_if_eq (B : zC p s m args meth c cc nL own E b) {x : Int32} {off : Int} {tgt : Nat} (d : decode cc pc = .ok (.ifCond .eq off, 3)) (ht : (pc : Int) + off = (tgt : Int)) (kt : x = 0 → zV p l e R s m args below meth c Q nL b P tgt L st k n) (kf : ¬ x = 0 → zV p l e R s m args below meth c Q nL b P (pc + 3) L st k n) : zV p l e R s m args below meth c Q nL b P pc L (.int x :: st) k n := fun H locs ls hP hS hl => lv_if_eq B.1 B.2.1 d ht (fun h => kt h H locs ls hP hS hl) (fun h => kf h H locs ls hP hS hl)
theorem zv_icmp_ne (B : zC p s m args meth c cc nL own E b) {x y : Int32} {off : Int} {tgt : Nat} (d : decode cc pc = .ok (.if_icmp .ne off, 3)) (ht : (pc : Int) + off = (tgt : Int)) (kt : ¬ x = y → zV p l e R s m args below meth c Q nL b P tgt L st k n) (kf : x = y → zV p l e R s m args below meth c Q nL b P (pc + 3) L st k n) : zV p l e R s m args below meth c Q nL b P pc L (.int y :: .int x :: st) k n := fun H locs ls hP hS hl => lv_icmp_ne B.1 B.2.1 d ht (fun h => kt h H locs ls hP hS hl) (fun h => kf h H locs ls hP hS hl)
theorem zv_if_ne (B : zC p s m args meth c cc nL own E b) {x : Int32} {off : Int} {tgt : Nat} (d : decode cc pc = .ok (.ifCond .ne off, 3)) (ht : (pc : Int) + off = (tgt : Int)) (kt : ¬ x = 0 → zV p l e R s m args below meth c Q nL b P tgt L st k n) (kf : x = 0 → zV p l e R s m args below meth c Q nL b P (pc + 3) L st k n) : zV p l e R s m args below meth c Q nL b P pc L (.int x :: st) k n := fun H locs ls hP hS hl => lv_if_ne B.1 B.2.1 d ht (fun h => kt h H locs ls hP hS hl) (fun h => kf h H locs ls hP hS hl)
theorem zv_icmp_lt (B : zC p s m args meth c cc nL own E b) {x y : Int32} {off : Int} {tgt : Nat} (d : decode cc pc = .ok (.if_icmp .lt off, 3)) (ht : (pc : Int) + off = (tgt : Int)) (kt : x < y → zV p l e R s m args below meth c Q nL b P tgt L st k n) (kf : ¬ x < y → zV p l e R s m args below meth c Q nL b P (pc + 3) L st k n) : zV p l e R s m args below meth c Q nL b P pc L (.int y :: .int x :: st) k n := fun H locs ls hP hS hl => lv_icmp_lt B.1 B.2.1 d ht (fun h => kt h H locs ls hP hS hl) (fun h => kf h H locs ls hP hS hl)
theorem zv_if_lt (B : zC p s m args meth c cc nL own E b) {x : Int32} {off : Int} {tgt : Nat} (d : decode cc pc = .ok (.ifCond .lt off, 3)) (ht : (pc : Int) + off = (tgt : Int)) (kt : x < 0 → zV p l e R s m args below meth c Q nL b P tgt L st k n) (kf : ¬ x < 0 → zV p l e R s m args below meth c Q nL b P (pc + 3) L st k n) : zV p l e R s m args below meth c Q nL b P pc L (.int x :: st) k n := fun H locs ls hP hS hl => lv_if_lt B.1 B.2.1 d ht (fun h => kt h H locs ls hP hS hl) (fun h => kf h H locs ls hP hS hl)
theorem zv_icmp_ge (B : zC p s m args meth c cc nL own E b) {x y : Int32} {off : Int} {tgt : Nat} (d : decode cc pc = .ok (.if_icmp .ge off, 3)) (ht : (pc : Int) + off = (tgt : Int)) (kt : y ≤ x → zV p l e R s m args below meth c Q nL b P tgt L st k n) (kf : ¬ y ≤ x → zV p l e R s m args below meth c Q nL b P (pc + 3) L st k n) : zV p l e R s m args below meth c Q nL b P pc L (.int y :: .int x :: st) k n := fun H locs ls hP hS hl => lv_icmp_ge B.1 B.2.1 d ht (fun h => kt h H locs ls hP hS hl) (fun h => kf h H locs ls hP hS hl)
theorem zv_if_ge (B : zC p s m args meth c cc nL own E b) {x : Int32} {off : Int} {tgt : Nat} (d : decode cc pc = .ok (.ifCond .ge off, 3)) (ht : (pc : Int) + off = (tgt : Int)) (kt : 0 ≤ x → zV p l e R s m args below meth c Q nL b P tgt L st k n) (kf : ¬ 0 ≤ x → zV p l e R s m args below meth c Q nL b P (pc + 3) L st k n) : zV p l e R s m args below meth c Q nL b P pc L (.int x :: st) k n := fun H locs ls hP hS hl => lv_if_ge B.1 B.2.1 d ht (fun h => kt h H locs ls hP hS hl) (fun h => kf h H locs ls hP hS hl)
theorem zv_icmp_gt (B : zC p s m args meth c cc nL own E b) {x y : Int32} {off : Int} {tgt : Nat} (d : decode cc pc = .ok (.if_icmp .gt off, 3)) (ht : (pc : Int) + off = (tgt : Int)) (kt : y < x → zV p l e R s m args below meth c Q nL b P tgt L st k n) (kf : ¬ y < x → zV p l e R s m args below meth c Q nL b P (pc + 3) L st k n) : zV p l e R s m args below meth c Q nL b P pc L (.int y :: .int x :: st) k n := fun H locs ls hP hS hl => lv_icmp_gt B.1 B.2.1 d ht (fun h => kt h H locs ls hP hS hl) (fun h => kf h H locs ls hP hS hl)
theorem zv_if_gt (B : zC p s m args meth c cc nL own E b) {x : Int32} {off : Int} {tgt : Nat} (d : decode cc pc = .ok (.ifCond .gt off, 3)) (ht : (pc : Int) + off = (tgt : Int)) (kt : 0 < x → zV p l e R s m args below meth c Q nL b P tgt L st k n) (kf : ¬ 0 < x → zV p l e R s m args below meth c Q nL b P (pc + 3) L st k n) : zV p l e R s m args below meth c Q nL b P pc L (.int x :: st) k n := fun H locs ls hP hS hl => lv_if_gt B.1 B.2.1 d ht (fun h => kt h H locs ls hP hS hl) (fun h => kf h H locs ls hP hS hl)
theorem zv_icmp_le (B : zC p s m args meth c cc nL own E b) {x y : Int32} {off : Int} {tgt : Nat} (d : decode cc pc = .ok (.if_icmp .le off, 3)) (ht : (pc : Int) + off = (tgt : Int)) (kt : x ≤ y → zV p l e R s m args below meth c Q nL b P tgt L st k n) (kf : ¬ x ≤ y → zV p l e R s m args below meth c Q nL b P (pc + 3) L st k n) : zV p l e R s m args below meth c Q nL b P pc L (.int y :: .int x :: st) k n := fun H locs ls hP hS hl => lv_icmp_le B.1 B.2.1 d ht (fun h => kt h H locs ls hP hS hl) (fun h => kf h H locs ls hP hS hl)
theorem zv_if_le (B : zC p s m args meth c cc nL own E b) {x : Int32} {off : Int} {tgt : Nat} (d : decode cc pc = .ok (.ifCond .le off, 3)) (ht : (pc : Int) + off = (tgt : Int)) (kt : x ≤ 0 → zV p l e R s m args below meth c Q nL b P tgt L st k n) (kf : ¬ x ≤ 0 → zV p l e R s m args below meth c Q nL b P (pc + 3) L st k n) : zV p l e R s m args below meth c Q nL b P pc L (.int x :: st) k n := fun H locs ls hP hS hl => lv_if_le B.1 B.2.1 d ht (fun h => kt h H locs ls hP hS hl) (fun h => kf h H locs ls hP hS hl)
theorem zv_tblIn (B : zC p s m args meth c cc nL own E b) {dflt lo hi : Int} {offs : Array Int} {len : Nat} {x : Int32} {off : Int} {tgt : Nat} (d : decode cc pc = .ok (.tableswitch dflt lo hi offs, len)) (h1 : ¬ x.toInt < lo) (h2 : ¬ hi < x.toInt) (ho : offs[(x.toInt - lo).toNat]? = some off) (ht : (pc : Int) + off = (tgt : Int)) (kk : zV p l e R s m args below meth c Q nL b P tgt L st k n) : zV p l e R s m args below meth c Q nL b P pc L (.int x :: st) k n := fun H locs ls hP hS hl => lv_tableIn B.1 B.2.1 d h1 h2 ho ht (kk H locs ls hP hS hl)
theorem zv_tblOut (B : zC p s m args meth c cc nL own E b) {dflt lo hi : Int} {offs : Array Int} {len : Nat} {x : Int32} {tgt : Nat} (d : decode cc pc = .ok (.tableswitch dflt lo hi offs, len)) (h : x.toInt < lo ∨ hi < x.toInt) (ht : (pc : Int) + dflt = (tgt : Int)) (kk : zV p l e R s m args below meth c Q nL b P tgt L st k n) : zV p l e R s m args below meth c Q nL b P pc L (.int x :: st) k n := fun H locs ls hP hS hl => lv_tableOut B.1 B.2.1 d h ht (kk H locs ls hP hS hl)
/-- fewer listed values -/
theorem zv_loc {L' : List (Nat × Value)} (ks : List Nat) (hL : lv_pick L ks = L') (kk : zV p l e R s m args below meth c Q nL b P pc L' st k n) : zV p l e R s m args below meth c Q nL b P pc L st k n := fun H locs ls hP hS hl => kk H locs ls hP hS (lv_sub hl ks hL)
/-- the same walk over other words for the same things -/
theorem zv_eq {L' : List (Nat × Value)} {st' : List Value} {P' : Heap → Prop} (hL : L = L') (hs : st = st') (hP : P = P') (kk : zV p l e R s m args below meth c Q nL b P' pc L' st' k n) : zV p l e R s m args below meth c Q nL b P pc L st k n := by
  subst hL; subst hs; subst hP; exact kk
theorem zv_imp {P' : Heap → Prop} (hi : ∀ H, P H → P' H) (kk : zV p l e R s m args below meth c Q nL b P' pc L st k n) : zV p l e R s m args below meth c Q nL b P pc L st k n := fun H locs ls hP hS hl => kk H locs ls (hi H hP) hS hl
theorem zv_ex {S : Type} {P' : S → Heap → Prop} (kk : ∀ u : S, zV p l e R s m args below meth c Q nL b (P' u) pc L st k n) : zV p l e R s m args below meth c Q nL b (fun H => ∃ u : S, P' u H) pc L st k n := fun H locs ls hP hS hl => hP.elim (fun u hu => kk u H locs ls hu hS hl)
theorem zv_and {φ : Prop} (kk : φ → zV p l e R s m args below meth c Q nL b P pc L st k n) : zV p l e R s m args below meth c Q nL b (fun H => φ ∧ P H) pc L st k n := fun H locs ls hP hS hl => kk hP.1 H locs ls hP.2 hS hl
theorem zv_widen {k' n' : Nat} (h1 : k ≤ k') (h2 : n ≤ n') (kk : zV p l e R s m args below meth c Q nL b P pc L st k' n') : zV p l e R s m args below meth c Q nL b P pc L st k n := fun H locs ls hP hS hl => W.widen h1 h2 (kk H locs ls hP hS hl)

theorem zv_mmax (B : zC p s m args meth c cc nL own E b) {i : Nat} (h1 : Cond.methodLink own i Lib.Math.max.name ∈ zAll) (h2 : Cond.static Lib.Math.max.name ∈ zAll) (h3 : Cond.initialized "java/lang/Math" ∈ zAll) (h4 : Cond.code Lib.Math.max.name Lib.Math.max.code 2 (some .int) ∈ zAll) (hf : 1 ≤ R.frames) (hlo : (st.map fun v => v.category).sum + 13 ≤ R.locals) (hk : k ≤ R.cells) (hn : n ≤ R.slots) {x y : Int32} (d : decode cc pc = .ok (.invokestatic i, 3)) (kk : zV p l e R s m args below meth c Q nL b P (pc + 3) L (.int (if x < y then y else x) :: st) k n) : zV p l e R s m args below meth c Q nL b P pc L (.int y :: .int x :: st) k n := fun H locs ls hP hS hl => va_mmax B.1 B.2.1 (B.2.2.1.trans hl.1.symm) B.2.2.2.1 (B.2.2.2.2.1 _ h1) (B.2.2.2.2.1 _ h2) (B.2.2.2.2.1 _ h3) (B.2.2.2.2.1 _ h4) hf hlo hk hn d (kk H locs ls hP hS hl)
theorem zv_mmin (B : zC p s m args meth c cc nL own E b) {i : Nat} (h1 : Cond.methodLink own i Lib.Math.min.name ∈ zAll) (h2 : Cond.static Lib.Math.min.name ∈ zAll) (h3 : Cond.initialized "java/lang/Math" ∈ zAll) (h4 : Cond.code Lib.Math.min.name Lib.Math.min.code 2 (some .int) ∈ zAll) (hf : 1 ≤ R.frames) (hlo : (st.map fun v => v.category).sum + 13 ≤ R.locals) (hk : k ≤ R.cells) (hn : n ≤ R.slots) {x y : Int32} (d : decode cc pc = .ok (.invokestatic i, 3)) (kk : zV p l e R s m args below meth c Q nL b P (pc + 3) L (.int (if y < x then y else x) :: st) k n) : zV p l e R s m args below meth c Q nL b P pc L (.int y :: .int x :: st) k n := fun H locs ls hP hS hl => va_mmin B.1 B.2.1 (B.2.2.1.trans hl.1.symm) B.2.2.2.1 (B.2.2.2.2.1 _ h1) (B.2.2.2.2.1 _ h2) (B.2.2.2.2.1 _ h3) (B.2.2.2.2.1 _ h4) hf hlo hk hn d (kk H locs ls hP hS hl)
theorem zv_mabs (B : zC p s m args meth c cc nL own E b) {i : Nat} (h1 : Cond.methodLink own i Lib.Math.abs.name ∈ zAll) (h2 : Cond.static Lib.Math.abs.name ∈ zAll) (h3 : Cond.initialized "java/lang/Math" ∈ zAll) (h4 : Cond.code Lib.Math.abs.name Lib.Math.abs.code 1 (some .int) ∈ zAll) (hf : 1 ≤ R.frames) (hlo : (st.map fun v => v.category).sum + 13 ≤ R.locals) (hk : k ≤ R.cells) (hn : n ≤ R.slots) {x : Int32} (d : decode cc pc = .ok (.invokestatic i, 3)) (kk : zV p l e R s m args below meth c Q nL b P (pc + 3) L (.int (if 0 ≤ x then x else 0 - x) :: st) k n) : zV p l e R s m args below meth c Q nL b P pc L (.int x :: st) k n := fun H locs ls hP hS hl => va_mabs B.1 B.2.1 (B.2.2.1.trans hl.1.symm) B.2.2.2.1 (B.2.2.2.2.1 _ h1) (B.2.2.2.2.1 _ h2) (B.2.2.2.2.1 _ h3) (B.2.2.2.2.1 _ h4) hf hlo hk hn d (kk H locs ls hP hS hl)
end ZV
end
section
theorem zI.same {E : zE} {b : Nat} {u U : State} {H : Heap} (hv : U.vm = u.vm) (h : zI E b u H) : zI E b U H := by
  have ha : u.vm.Alike U.vm := by rw [hv]; exact Vm.Alike.refl u.vm
  obtain ⟨h1, h2, h3, h4, ⟨h5, h6⟩, h7, h8⟩ := h
  refine ⟨va_K.moved ha h1, h2.moved ha, fun q hq => ?_, fun q hq => va_Nw.same rfl hv.symm (h4 q hq), ⟨va_AO.moved ha h5, va_AOA.moved ha h6⟩, fun X hX => va_Nw.same rfl hv.symm (h7 X hX), fun q hq => va_Nc.moved ha (h8 q hq)⟩
  obtain ⟨a, ha⟩ := h3 q hq
  exact ⟨a, vk_R.same hv ha⟩
theorem zPc.blind {E : zE} {b : Nat} {As : List Value} {P : Heap → Prop} : FrameBlind (zPc E b As P) := fun a U g mk h => ⟨h.1, ⟨zI.same (u := U) rfl h.2.1.1, h.2.1.2⟩, h.2.2⟩
section ZE
variable {l : Launch} {E : zE} {b : Nat} {S : Type} {post : Option Value → S → Prop} {Bh : S → Heap → Prop} {P : Heap → Prop} {mc ms : Nat} {rm : Room} {y : MethodName} {ws : List Cond} {cc : ByteArray} {maxL : Nat} {ret : Option FieldType} {px : String → Prop}
theorem zM_of {As : List Value} (own : String) (hy : plainName y.cls = true) (hw : ws = Cond.code y cc maxL ret :: zAll) (hcls : y.cls = own) (hlen : (lg_sl As).length ≤ maxL) {L0 : List (Nat × Value)} (hL0 : lv_args 0 As = L0)
    (body : ∀ (p : Program) (e : Env) (s : State) (m : MethodId) (args : Array Value) (below : List Frame) (meth : Method) (c : Code), zC p s m args meth c cc maxL own E b → meth.sig.returnType = ret → meth.name = y.name →
      zV p l e rm s m args below meth c (MQ below (zQ b post Bh) args s mc ms (zA b)) maxL b P 0 L0 [] 0 0) : zM l y ws rm E b As P post Bh mc ms := by
  refine Met.ofW (cc := cc) (maxL := maxL) (ret := ret) hy hw ?_
  intro p e s m args below meth c s₁ B hml hv
  obtain ⟨rfl, ⟨hI, hbs⟩, hP⟩ := hv
  subst hcls
  subst hL0
  rw [lg_entry_eq]
  exact body p e s m _ below meth c ⟨B.exec, B.bytes, hml, findClass_of_methodNamed B.named, fun w hw9 => atoms_spec (ws := ws) B.pre w (by rw [hw]; exact List.mem_cons_of_mem _ hw9), hI, B.notSynchronized, hbs⟩ B.returns (name_of_methodNamed B.named B.method).1 s.heap [] _ hP va_S.rf (lv_entry As hlen)
theorem zX_of {As : List Value} (own : String) (hy : plainName y.cls = true) (hw : ws = Cond.code y cc maxL ret :: zAll) (hcls : y.cls = own) (hlen : (lg_sl As).length ≤ maxL) {L0 : List (Nat × Value)} (hL0 : lv_args 0 As = L0)
    (body : ∀ (p : Program) (e : Env) (s : State) (m : MethodId) (args : Array Value) (below : List Frame) (meth : Method) (c : Code), zC p s m args meth c cc maxL own E b → meth.sig.returnType = ret → (∀ x ∈ c.exceptionTable.toList, False) →
      zV p l e rm s m args below meth c (vx_MQ below (zQ b post Bh) (zXC b px P) args s mc ms (zA b)) maxL b P 0 L0 [] 0 0) : zX l y ws rm E b As P post Bh px mc ms := by
  refine vx_ofW (cc := cc) (maxL := maxL) (ret := ret) hy hw ?_
  intro p e s m args below meth c s₁ B hml ht hv
  obtain ⟨rfl, ⟨hI, hbs⟩, hP⟩ := hv
  subst hcls
  subst hL0
  rw [lg_entry_eq]
  exact body p e s m _ below meth c ⟨B.exec, B.bytes, hml, findClass_of_methodNamed B.named, fun w hw9 => atoms_spec (ws := ws) B.pre w (by rw [hw]; exact List.mem_cons_of_mem _ hw9), hI, B.notSynchronized, hbs⟩ B.returns ht s.heap [] _ hP va_S.rf (lv_entry As hlen)
end ZE
section ZR
variable {p : Program} {l : Launch} {e : Env} {R : Room} {s : State} {m : MethodId} {args : Array Value} {below : List Frame} {meth : Method} {c : Code} {nL b : Nat} {P : Heap → Prop} {pc : Nat} {L : List (Nat × Value)} {k n : Nat}
variable {cc : ByteArray} {own : String} {E : zE} {S : Type} {post : Option Value → S → Prop} {Bh : S → Heap → Prop} {mc ms : Nat} {XC : String → State → State → Prop}
theorem zv_iret (B : zC p s m args meth c cc nL own E b) (v : Int32) (hr : meth.sig.returnType = some .int) (hq : ∀ H, P H → ∃ u : S, post (some (.int v)) u ∧ Bh u H) (hk : k ≤ mc) (hn : n ≤ ms) (d : decode cc pc = .ok (.ireturn, 1)) : zV p l e R s m args below meth c (MQ below (zQ b post Bh) args s mc ms (zA b)) nL b P pc L [.int v] k n := fun H locs ls hP hS hl => W.widen hk hn (W.iret (v := v) B.1 B.2.1 hr (fun t ht hW => (hq H hP).elim (fun u hu => ⟨⟨_, u, rfl, hu.1, by rw [ht]; exact hu.2⟩, hS.F ht⟩)) hS.2.2 d B.2.2.2.2.2.2.1)
theorem zx_iret (B : zC p s m args meth c cc nL own E b) (v : Int32) (hr : meth.sig.returnType = some .int) (hq : ∀ H, P H → ∃ u : S, post (some (.int v)) u ∧ Bh u H) (hk : k ≤ mc) (hn : n ≤ ms) (d : decode cc pc = .ok (.ireturn, 1)) : zV p l e R s m args below meth c (vx_MQ below (zQ b post Bh) XC args s mc ms (zA b)) nL b P pc L [.int v] k n := fun H locs ls hP hS hl => vx_ret (W.widen hk hn (W.iret (v := v) B.1 B.2.1 hr (fun t ht hW => (hq H hP).elim (fun u hu => ⟨⟨_, u, rfl, hu.1, by rw [ht]; exact hu.2⟩, hS.F ht⟩)) hS.2.2 d B.2.2.2.2.2.2.1))
theorem zv_zret (B : zC p s m args meth c cc nL own E b) {ty : FieldType} (v : Int32) (hn9 : narrow ty (.int v) = .int v) (hr : meth.sig.returnType = some ty) (hq : ∀ H, P H → ∃ u : S, post (some (.int v)) u ∧ Bh u H) (hk : k ≤ mc) (hn : n ≤ ms) (d : decode cc pc = .ok (.ireturn, 1)) : zV p l e R s m args below meth c (MQ below (zQ b post Bh) args s mc ms (zA b)) nL b P pc L [.int v] k n := fun H locs ls hP hS hl => W.widen hk hn (W.zret (v := v) B.1 B.2.1 hr hn9 (fun t ht hW => (hq H hP).elim (fun u hu => ⟨⟨_, u, rfl, hu.1, by rw [ht]; exact hu.2⟩, hS.F ht⟩)) hS.2.2 d B.2.2.2.2.2.2.1)
theorem zx_zret (B : zC p s m args meth c cc nL own E b) {ty : FieldType} (v : Int32) (hn9 : narrow ty (.int v) = .int v) (hr : meth.sig.returnType = some ty) (hq : ∀ H, P H → ∃ u : S, post (some (.int v)) u ∧ Bh u H) (hk : k ≤ mc) (hn : n ≤ ms) (d : decode cc pc = .ok (.ireturn, 1)) : zV p l e R s m args below meth c (vx_MQ below (zQ b post Bh) XC args s mc ms (zA b)) nL b P pc L [.int v] k n := fun H locs ls hP hS hl => vx_ret (W.widen hk hn (W.zret (v := v) B.1 B.2.1 hr hn9 (fun t ht hW => (hq H hP).elim (fun u hu => ⟨⟨_, u, rfl, hu.1, by rw [ht]; exact hu.2⟩, hS.F ht⟩)) hS.2.2 d B.2.2.2.2.2.2.1))
theorem zv_lret (B : zC p s m args meth c cc nL own E b) (v : Int64) (hr : meth.sig.returnType = some .long) (hq : ∀ H, P H → ∃ u : S, post (some (.long v)) u ∧ Bh u H) (hk : k ≤ mc) (hn : n ≤ ms) (d : decode cc pc = .ok (.lreturn, 1)) : zV p l e R s m args below meth c (MQ below (zQ b post Bh) args s mc ms (zA b)) nL b P pc L [.long v] k n := fun H locs ls hP hS hl => W.widen hk hn (W.lret (v := v) B.1 B.2.1 hr (fun t ht hW => (hq H hP).elim (fun u hu => ⟨⟨_, u, rfl, hu.1, by rw [ht]; exact hu.2⟩, hS.F ht⟩)) hS.2.2 d B.2.2.2.2.2.2.1)
theorem zx_lret (B : zC p s m args meth c cc nL own E b) (v : Int64) (hr : meth.sig.returnType = some .long) (hq : ∀ H, P H → ∃ u : S, post (some (.long v)) u ∧ Bh u H) (hk : k ≤ mc) (hn : n ≤ ms) (d : decode cc pc = .ok (.lreturn, 1)) : zV p l e R s m args below meth c (vx_MQ below (zQ b post Bh) XC args s mc ms (zA b)) nL b P pc L [.long v] k n := fun H locs ls hP hS hl => vx_ret (W.widen hk hn (W.lret (v := v) B.1 B.2.1 hr (fun t ht hW => (hq H hP).elim (fun u hu => ⟨⟨_, u, rfl, hu.1, by rw [ht]; exact hu.2⟩, hS.F ht⟩)) hS.2.2 d B.2.2.2.2.2.2.1))
theorem zv_vret (B : zC p s m args meth c cc nL own E b)  (hr : meth.sig.returnType = none) (hq : ∀ H, P H → ∃ u : S, post (none) u ∧ Bh u H) (hk : k ≤ mc) (hn : n ≤ ms) (d : decode cc pc = .ok (.return_, 1)) : zV p l e R s m args below meth c (MQ below (zQ b post Bh) args s mc ms (zA b)) nL b P pc L [] k n := fun H locs ls hP hS hl => W.widen hk hn (W.vret B.1 B.2.1 hr (fun t ht hW => (hq H hP).elim (fun u hu => ⟨⟨_, u, rfl, hu.1, by rw [ht]; exact hu.2⟩, hS.F ht⟩)) hS.2.2 d B.2.2.2.2.2.2.1)
theorem zx_vret (B : zC p s m args meth c cc nL own E b)  (hr : meth.sig.returnType = none) (hq : ∀ H, P H → ∃ u : S, post (none) u ∧ Bh u H) (hk : k ≤ mc) (hn : n ≤ ms) (d : decode cc pc = .ok (.return_, 1)) : zV p l e R s m args below meth c (vx_MQ below (zQ b post Bh) XC args s mc ms (zA b)) nL b P pc L [] k n := fun H locs ls hP hS hl => vx_ret (W.widen hk hn (W.vret B.1 B.2.1 hr (fun t ht hW => (hq H hP).elim (fun u hu => ⟨⟨_, u, rfl, hu.1, by rw [ht]; exact hu.2⟩, hS.F ht⟩)) hS.2.2 d B.2.2.2.2.2.2.1))
end ZR
section ZCL
variable {p : Program} {l : Launch} {e : Env} {R : Room} {s : State} {m : MethodId} {args : Array Value} {below : List Frame} {meth : Method} {c : Code} {Q : State → Prop} {nL b : Nat} {P Pc : Heap → Prop} {pc : Nat} {L : List (Nat × Value)} {st rest : List Value} {k n : Nat}
variable {cc : ByteArray} {own C : String} {E : zE} {S : Type} {post : Option Value → S → Prop} {Bh : S → Heap → Prop} {mc ms : Nat} {y : MethodName} {ws : List Cond} {rm : Room} {As : List Value} {q : Nat} {bytes : ByteArray} {maxL index cnt : Nat} {ret : Option FieldType} {px : String → Prop}
theorem zc_pre {s : State} {m : MethodId} {p : Program} {args : Array Value} {meth : Method} {c : Code} {H : Heap} {locs : List Loc} (B : zC p s m args meth c cc nL own E b) (hS : va_S (zA b) s.heap H locs) (hP : Pc H) (U : State) (hU : U.heap = H) (hW : s.WarmedH U.vm) : zPc E b As Pc As.toArray U :=
  ⟨rfl, ⟨by rw [hU]; exact B.2.2.2.2.2.1.to hW hS, by rw [hU]; exact Nat.le_trans B.2.2.2.2.2.2.2 hS.1⟩, by rw [hU]; exact hP⟩
theorem zc_go {a : Array Value} {H : Heap} {locs : List Loc} {ls : Array Slot} (hr : va_Run p l e R s m args below meth c H locs k n mc ms (F0 m pc ls st) rest (zQ b post Bh a) (zA b)) (hS : va_S (zA b) s.heap H locs) (hl : lv_has ls nL L)
    (kk : ∀ (v : Option Value) (u : S), post v u → zV p l e R s m args below meth c Q nL b (Bh u) (pc + 3) L (v.toList ++ rest) (k + mc) (n + ms)) : W p l e R s m args below meth c H locs k n Q (F0 m pc ls st) := by
  intro T hT X
  obtain ⟨v, st₀, t, T', Lc, h0, X', hL, e1, e2, ⟨⟨v', u, hv, hp, hb⟩, hz, hk⟩, stp⟩ := hr T hT X
  cases hv
  rw [h0] at hz hk
  obtain ⟨t2, a1, b1⟩ := kk v u hp T'.heap (locs ++ Lc) ls (by rw [e1]; exact hb)
    ⟨Nat.le_trans hS.1 (by rw [e1]; exact hz), fun x h1 h2 => by rw [e1, hk x (Nat.lt_of_lt_of_le h1 hS.1) h2]; exact hS.2.1 x h1 h2, fun x hx => by
      rcases List.mem_append.mp hx with h | h
      · exact hS.2.2 x h
      · exact hL x h⟩ hl T' rfl X'
  exact ⟨t2, stp t2 a1, b1⟩
theorem zv_callV (B : zC p s m args meth c cc nL own E b) (hM : zM l y ws rm E b (.ref q :: As) Pc post Bh mc ms) (cw : CallW R s args own C index y bytes maxL ret ws rm mc ms cnt) (hn9 : As.length = cnt) (hrecv : ∀ H, P H → ∃ cell : Cell, H[q]? = some cell ∧ cell.vm.isStatics = false ∧ s.vm.findClass C = some cell.cls) (hP9 : ∀ H, P H → Pc H) (hst : st = As.reverse ++ .ref q :: rest) (hW : (rest.map fun v => v.category).sum ≤ 8) (d : decode cc pc = .ok (.invokevirtual index, 3)) (hf : k + mc ≤ R.cells ∧ n + ms ≤ R.slots)
    (kk : ∀ (v : Option Value) (u : S), post v u → zV p l e R s m args below meth c Q nL b (Bh u) (pc + 3) L (v.toList ++ rest) (k + mc) (n + ms)) : zV p l e R s m args below meth c Q nL b P pc L st k n := fun H locs ls hP hS hl => by
  subst hst
  exact zc_go (va_runV (As := As) (rest := rest) ⟨B.1, B.2.1, B.2.2.1, B.2.2.2.1, B.2.2.2.2.1⟩ hM cw ⟨zPc.blind, hrecv H hP, fun U hU hW9 => zc_pre B hS (hP9 H hP) U hU hW9⟩ rfl hn9 hl.1 rfl (lv_room hW) d hf) hS hl kk
theorem zv_callS (B : zC p s m args meth c cc nL own E b) (hM : zM l y ws rm E b As Pc post Bh mc ms) (cw : CallB R s args own index y bytes maxL ret ws rm mc ms cnt ∧ (Cond.static y).before args s = true) (hn9 : As.length = cnt) (hP9 : ∀ H, P H → Pc H) (hst : st = As.reverse ++ rest) (hW : (rest.map fun v => v.category).sum ≤ 8) (d : decode cc pc = .ok (.invokestatic index, 3)) (hf : k + mc ≤ R.cells ∧ n + ms ≤ R.slots)
    (kk : ∀ (v : Option Value) (u : S), post v u → zV p l e R s m args below meth c Q nL b (Bh u) (pc + 3) L (v.toList ++ rest) (k + mc) (n + ms)) : zV p l e R s m args below meth c Q nL b P pc L st k n := fun H locs ls hP hS hl => by
  subst hst
  exact zc_go (va_runS (As := As) (rest := rest) ⟨B.1, B.2.1, B.2.2.1, B.2.2.2.1, B.2.2.2.2.1⟩ hM cw ⟨zPc.blind, fun U hU hW9 => zc_pre B hS (hP9 H hP) U hU hW9⟩ rfl hn9 hl.1 rfl (lv_room hW) d hf) hS hl kk
theorem zv_callSN {host : String} (B : zC p s m args meth c cc nL own E b) (hM : zM l y ws rm E b As Pc post Bh mc ms) (cw : va_CN R s args own index y host bytes maxL ret ws rm mc ms cnt ∧ (Cond.static y).before args s = true) (hn9 : As.length = cnt) (hP9 : ∀ H, P H → Pc H) (hst : st = As.reverse ++ rest) (hW : (rest.map fun v => v.category).sum ≤ 8) (d : decode cc pc = .ok (.invokestatic index, 3)) (hf : k + mc ≤ R.cells ∧ n + ms ≤ R.slots)
    (kk : ∀ (v : Option Value) (u : S), post v u → zV p l e R s m args below meth c Q nL b (Bh u) (pc + 3) L (v.toList ++ rest) (k + mc) (n + ms)) : zV p l e R s m args below meth c Q nL b P pc L st k n := fun H locs ls hP hS hl => by
  subst hst
  exact zc_go (va_runSN (As := As) (rest := rest) ⟨B.1, B.2.1, B.2.2.1, B.2.2.2.1, B.2.2.2.2.1⟩ hM ⟨cw.1, cw.2, trivial⟩ ⟨zPc.blind, fun U hU hW9 => zc_pre B hS (hP9 H hP) U hU hW9⟩ rfl hn9 hl.1 rfl (lv_room hW) d hf) hS hl kk
theorem zv_callI (B : zC p s m args meth c cc nL own E b) (hM : zM l y ws rm E b (.ref q :: As) Pc post Bh mc ms) (cw : CallB R s args own index y bytes maxL none ws rm mc ms cnt ∧ y.name = "<init>" ∧ (Cond.instanceMethod y).before args s = true) (hn9 : As.length = cnt) (hP9 : ∀ H, P H → Pc H) (hst : st = As.reverse ++ .ref q :: rest) (hW : (rest.map fun v => v.category).sum ≤ 8) (d : decode cc pc = .ok (.invokespecial index, 3)) (hf : k + mc ≤ R.cells ∧ n + ms ≤ R.slots)
    (kk : ∀ (v : Option Value) (u : S), post v u → zV p l e R s m args below meth c Q nL b (Bh u) (pc + 3) L (v.toList ++ rest) (k + mc) (n + ms)) : zV p l e R s m args below meth c Q nL b P pc L st k n := fun H locs ls hP hS hl => by
  subst hst
  exact zc_go (va_runI (As := As) (rest := rest) ⟨B.1, B.2.1, B.2.2.1, B.2.2.2.1, B.2.2.2.2.1⟩ hM cw ⟨zPc.blind, fun U hU hW9 => zc_pre B hS (hP9 H hP) U hU hW9⟩ rfl hn9 hl.1 rfl (lv_room hW) d hf) hS hl kk
theorem zv_callIN {host : String} (B : zC p s m args meth c cc nL own E b) (hM : zM l y ws rm E b (.ref q :: As) Pc post Bh mc ms) (cw : va_CN R s args own index y host bytes maxL none ws rm mc ms cnt ∧ y.name = "<init>" ∧ (Cond.instanceMethod y).before args s = true) (hn9 : As.length = cnt) (hP9 : ∀ H, P H → Pc H) (hst : st = As.reverse ++ .ref q :: rest) (hW : (rest.map fun v => v.category).sum ≤ 8) (d : decode cc pc = .ok (.invokespecial index, 3)) (hf : k + mc ≤ R.cells ∧ n + ms ≤ R.slots)
    (kk : ∀ (v : Option Value) (u : S), post v u → zV p l e R s m args below meth c Q nL b (Bh u) (pc + 3) L (v.toList ++ rest) (k + mc) (n + ms)) : zV p l e R s m args below meth c Q nL b P pc L st k n := fun H locs ls hP hS hl => by
  subst hst
  exact zc_go (va_runIN (As := As) (rest := rest) ⟨B.1, B.2.1, B.2.2.1, B.2.2.2.1, B.2.2.2.2.1⟩ hM cw ⟨zPc.blind, fun U hU hW9 => zc_pre B hS (hP9 H hP) U hU hW9⟩ rfl hn9 hl.1 rfl (lv_room hW) d hf) hS hl kk
/-- a callee that may throw: its world is as it was, then -/
theorem zc_goX {a : Array Value} {H : Heap} {locs : List Loc} {ls : Array Slot} (hr : vx_Run p l e R s m args below meth c H locs k n mc ms (F0 m pc ls st) rest (zQ b post Bh a) (zXC b px Pc) (zA b)) (hS : va_S (zA b) s.heap H locs) (hl : lv_has ls nL L)
    (kx : ∀ X : String, px X → zVX p l e R s m args below meth c Q nL b Pc pc L rest (k + mc) (n + ms) X)
    (kk : ∀ (v : Option Value) (u : S), post v u → zV p l e R s m args below meth c Q nL b (Bh u) (pc + 3) L (v.toList ++ rest) (k + mc) (n + ms)) : W p l e R s m args below meth c H locs k n Q (F0 m pc ls st) := by
  intro T hT X
  rcases hr T hT X with ⟨v, st₀, t, T', Lc, h0, X', hL, e1, e2, ⟨⟨v', u, hv, hp, hb⟩, hF⟩, stp⟩ | ⟨q9, st₀, t, T', Lc, Xn, ce, h0, X', hL, e1, e2, ⟨hp, hPP, hF⟩, hce, hcv, hcl, stp⟩
  · cases hv
    obtain ⟨k1, k2, k3⟩ := vx_keep h0 e1 hS (fun _ _ h => h) (fun _ h => h) hL hF
    obtain ⟨t2, a1, b1⟩ := kk v u hp T'.heap (locs ++ Lc) ls (by rw [e1]; exact hb) k3 hl T' rfl X'
    exact ⟨t2, stp t2 a1, b1⟩
  · obtain ⟨k1, k2, k3⟩ := vx_keep h0 e1 hS (fun _ _ h => h) (fun _ h => h) hL hF
    obtain ⟨t2, a1, b1⟩ := kx Xn hp T'.heap (locs ++ Lc) ls ce q9 (by rw [e1]; exact hPP) k3 hl (by rw [e1]; exact hce) hcv hcl T' rfl X'
    exact ⟨t2, stp.trans a1, b1⟩
theorem zv_callVX (B : zC p s m args meth c cc nL own E b) (hM : zX l y ws rm E b (.ref q :: As) Pc post Bh px mc ms) (cw : CallW R s args own C index y bytes maxL ret ws rm mc ms cnt) (hn9 : As.length = cnt) (hrecv : ∀ H, P H → ∃ cell : Cell, H[q]? = some cell ∧ cell.vm.isStatics = false ∧ s.vm.findClass C = some cell.cls) (hP9 : ∀ H, P H → Pc H) (hst : st = As.reverse ++ .ref q :: rest) (hW : (rest.map fun v => v.category).sum ≤ 8) (d : decode cc pc = .ok (.invokevirtual index, 3)) (hf : k + mc ≤ R.cells ∧ n + ms ≤ R.slots)
    (kx : ∀ X : String, px X → zVX p l e R s m args below meth c Q nL b Pc pc L rest (k + mc) (n + ms) X)
    (kk : ∀ (v : Option Value) (u : S), post v u → zV p l e R s m args below meth c Q nL b (Bh u) (pc + 3) L (v.toList ++ rest) (k + mc) (n + ms)) : zV p l e R s m args below meth c Q nL b P pc L st k n := fun H locs ls hP hS hl => by
  subst hst
  exact zc_goX (vx_runV (As := As) (rest := rest) ⟨B.1, B.2.1, B.2.2.1, B.2.2.2.1, B.2.2.2.2.1⟩ hM cw ⟨zPc.blind, hrecv H hP, fun U hU hW9 => zc_pre B hS (hP9 H hP) U hU hW9⟩ rfl hn9 hl.1 rfl (lv_room hW) d hf) hS hl kx kk
theorem zv_callSX (B : zC p s m args meth c cc nL own E b) (hM : zX l y ws rm E b As Pc post Bh px mc ms) (cw : CallB R s args own index y bytes maxL ret ws rm mc ms cnt ∧ (Cond.static y).before args s = true) (hn9 : As.length = cnt) (hP9 : ∀ H, P H → Pc H) (hst : st = As.reverse ++ rest) (hW : (rest.map fun v => v.category).sum ≤ 8) (d : decode cc pc = .ok (.invokestatic index, 3)) (hf : k + mc ≤ R.cells ∧ n + ms ≤ R.slots)
    (kx : ∀ X : String, px X → zVX p l e R s m args below meth c Q nL b Pc pc L rest (k + mc) (n + ms) X)
    (kk : ∀ (v : Option Value) (u : S), post v u → zV p l e R s m args below meth c Q nL b (Bh u) (pc + 3) L (v.toList ++ rest) (k + mc) (n + ms)) : zV p l e R s m args below meth c Q nL b P pc L st k n := fun H locs ls hP hS hl => by
  subst hst
  exact zc_goX (vx_runS (As := As) (rest := rest) ⟨B.1, B.2.1, B.2.2.1, B.2.2.2.1, B.2.2.2.2.1⟩ hM cw ⟨zPc.blind, fun U hU hW9 => zc_pre B hS (hP9 H hP) U hU hW9⟩ rfl hn9 hl.1 rfl (lv_room hW) d hf) hS hl kx kk
/-- an exception goes on to the caller -/
theorem zx_out {X : String} (B : zC p s m args meth c cc nL own E b) (ht : ∀ x ∈ c.exceptionTable.toList, False) (hpx : px X) (hPP : ∀ H, P H → Pc H) (hk : k ≤ mc) (hn : n ≤ ms) : zVX p l e R s m args below meth c (vx_MQ below (zQ b post Bh) (zXC b px Pc) args s mc ms (zA b)) nL b P pc L st k n X := fun H locs ls ce q9 hP hS hl hce hcv hcl =>
  vx_out (fun x hx => (ht x hx).elim) B.2.2.2.2.2.2.1 hce hcv hcl (fun t hth hal => ⟨hpx, by rw [hth]; exact hPP H hP, hS.F hth⟩) hS.2.2 hk hn
end ZCL
end
section
/-! the layout: cell i lies at b + i -/
abbrev zF : Type := (Nat → Int32) → Int64 → Nat → Option va_E
def zLay0 (E : zE) (b : Nat) : List zF := [fun x w e => some (.inr (8, [.ref (b + 1), .ref (b + 34), .ref (b + 70), .ref (b + 106), .ref (b + 108), .ref (b + 109), .int (x 6), .ref e])),
  fun x w e => some (.inr (2, [.int (x 0), .int (x 1), .ref (b + 2), .ref (b + 3), .ref (b + 4), .ref (b + 5), .ref (b + 6), .ref (b + 7), .ref (b + 8), .ref (b + 9), .ref (b + 10), .ref (b + 11), .ref (b + 22), .ref (b + 33)])),
  fun x _ _ => some (.inl (E.2 0, 10, .inl x)),
  fun x _ _ => some (.inl (E.2 1, 10, .inl x)),
  fun x _ _ => some (.inl (E.2 1, 10, .inl x)),
  fun x _ _ => some (.inl (E.2 1, 10, .inl x)),
  fun x _ _ => some (.inl (E.2 1, 10, .inl x)),
  fun x _ _ => some (.inl (E.2 1, 10, .inl x)),
  fun x _ _ => some (.inl (E.2 1, 10, .inl x)),
  fun x _ _ => some (.inl (E.2 1, 10, .inl x)),
  fun x _ _ => some (.inl (E.2 1, 10, .inl x)),
  fun _ _ _ => some (.inl (E.2 4, 10, .inr (.inr (.inr (.inr (fun j => if j < 10 then some (b + (12 + j)) else none)))))),
  fun x _ _ => some (.inl (E.2 1, 4, .inl x)),
  fun x _ _ => some (.inl (E.2 1, 4, .inl x)),
  fun x _ _ => some (.inl (E.2 1, 4, .inl x)),
  fun x _ _ => some (.inl (E.2 1, 4, .inl x)),
  fun x _ _ => some (.inl (E.2 1, 4, .inl x)),
  fun x _ _ => some (.inl (E.2 1, 4, .inl x))]
def zLay1 (E : zE) (b : Nat) : List zF := [fun x _ _ => some (.inl (E.2 1, 4, .inl x)),
  fun x _ _ => some (.inl (E.2 1, 4, .inl x)),
  fun x _ _ => some (.inl (E.2 1, 4, .inl x)),
  fun x _ _ => some (.inl (E.2 1, 4, .inl x)),
  fun _ _ _ => some (.inl (E.2 4, 10, .inr (.inr (.inr (.inr (fun j => if j < 10 then some (b + (23 + j)) else none)))))),
  fun x _ _ => some (.inl (E.2 1, 4, .inl x)),
  fun x _ _ => some (.inl (E.2 1, 4, .inl x)),
  fun x _ _ => some (.inl (E.2 1, 4, .inl x)),
  fun x _ _ => some (.inl (E.2 1, 4, .inl x)),
  fun x _ _ => some (.inl (E.2 1, 4, .inl x)),
  fun x _ _ => some (.inl (E.2 1, 4, .inl x)),
  fun x _ _ => some (.inl (E.2 1, 4, .inl x)),
  fun x _ _ => some (.inl (E.2 1, 4, .inl x)),
  fun x _ _ => some (.inl (E.2 1, 4, .inl x)),
  fun x _ _ => some (.inl (E.2 1, 4, .inl x)),
  fun x _ _ => some (.inl (E.2 1, 10, .inl x)),
  fun x w e => some (.inr (6, [.ref (b + 1), .ref (b + 35), .ref (b + 45), .ref (b + 56), .ref (b + 57), .ref (b + 58), .ref (b + 69)])),
  fun x w e => some (.inr (3, [.ref (b + 36), .int (x 1), .int (x 2)]))]
def zLay2 (E : zE) (b : Nat) : List zF := [fun _ _ _ => some (.inl (E.2 3, 4, .inr (.inr (.inr (.inr (fun j => if j < 4 then some (b + (37 + 2 * j)) else none)))))),
  fun x w e => some (.inr (7, [.int (x 0), .int (x 1), .int (x 2), .int (x 3), .int (x 4), .ref e, .int (x 6), .int (x 7), .int (x 8), .int (x 9), .int (x 10), .int (x 11), .int (x 12)])),
  fun _ _ _ => none,
  fun x w e => some (.inr (7, [.int (x 0), .int (x 1), .int (x 2), .int (x 3), .int (x 4), .ref e, .int (x 6), .int (x 7), .int (x 8), .int (x 9), .int (x 10), .int (x 11), .int (x 12)])),
  fun _ _ _ => none,
  fun x w e => some (.inr (7, [.int (x 0), .int (x 1), .int (x 2), .int (x 3), .int (x 4), .ref e, .int (x 6), .int (x 7), .int (x 8), .int (x 9), .int (x 10), .int (x 11), .int (x 12)])),
  fun _ _ _ => none,
  fun x w e => some (.inr (7, [.int (x 0), .int (x 1), .int (x 2), .int (x 3), .int (x 4), .ref e, .int (x 6), .int (x 7), .int (x 8), .int (x 9), .int (x 10), .int (x 11), .int (x 12)])),
  fun _ _ _ => none,
  fun _ _ _ => some (.inl (E.2 4, 10, .inr (.inr (.inr (.inr (fun j => if j < 10 then some (b + (46 + j)) else none)))))),
  fun x _ _ => some (.inl (E.2 1, 64, .inl x)),
  fun x _ _ => some (.inl (E.2 1, 64, .inl x)),
  fun x _ _ => some (.inl (E.2 1, 64, .inl x)),
  fun x _ _ => some (.inl (E.2 1, 64, .inl x)),
  fun x _ _ => some (.inl (E.2 1, 64, .inl x)),
  fun x _ _ => some (.inl (E.2 1, 64, .inl x)),
  fun x _ _ => some (.inl (E.2 1, 64, .inl x)),
  fun x _ _ => some (.inl (E.2 1, 64, .inl x))]
def zLay3 (E : zE) (b : Nat) : List zF := [fun x _ _ => some (.inl (E.2 1, 64, .inl x)),
  fun x _ _ => some (.inl (E.2 1, 64, .inl x)),
  fun x _ _ => some (.inl (E.2 1, 10, .inl x)),
  fun x _ _ => some (.inl (E.2 1, 10, .inl x)),
  fun _ _ _ => some (.inl (E.2 4, 10, .inr (.inr (.inr (.inr (fun j => if j < 10 then some (b + (59 + j)) else none)))))),
  fun x _ _ => some (.inl (E.2 1, 60, .inl x)),
  fun x _ _ => some (.inl (E.2 1, 60, .inl x)),
  fun x _ _ => some (.inl (E.2 1, 60, .inl x)),
  fun x _ _ => some (.inl (E.2 1, 60, .inl x)),
  fun x _ _ => some (.inl (E.2 1, 60, .inl x)),
  fun x _ _ => some (.inl (E.2 1, 60, .inl x)),
  fun x _ _ => some (.inl (E.2 1, 60, .inl x)),
  fun x _ _ => some (.inl (E.2 1, 60, .inl x)),
  fun x _ _ => some (.inl (E.2 1, 60, .inl x)),
  fun x _ _ => some (.inl (E.2 1, 60, .inl x)),
  fun x _ _ => some (.inl (E.2 1, 10, .inl x)),
  fun x w e => some (.inr (6, [.ref (b + 1), .ref (b + 71), .ref (b + 81), .ref (b + 92), .ref (b + 93), .ref (b + 94), .ref (b + 105)])),
  fun x w e => some (.inr (3, [.ref (b + 72), .int (x 1), .int (x 2)]))]
def zLay4 (E : zE) (b : Nat) : List zF := [fun _ _ _ => some (.inl (E.2 3, 4, .inr (.inr (.inr (.inr (fun j => if j < 4 then some (b + (73 + 2 * j)) else none)))))),
  fun x w e => some (.inr (7, [.int (x 0), .int (x 1), .int (x 2), .int (x 3), .int (x 4), .ref e, .int (x 6), .int (x 7), .int (x 8), .int (x 9), .int (x 10), .int (x 11), .int (x 12)])),
  fun _ _ _ => none,
  fun x w e => some (.inr (7, [.int (x 0), .int (x 1), .int (x 2), .int (x 3), .int (x 4), .ref e, .int (x 6), .int (x 7), .int (x 8), .int (x 9), .int (x 10), .int (x 11), .int (x 12)])),
  fun _ _ _ => none,
  fun x w e => some (.inr (7, [.int (x 0), .int (x 1), .int (x 2), .int (x 3), .int (x 4), .ref e, .int (x 6), .int (x 7), .int (x 8), .int (x 9), .int (x 10), .int (x 11), .int (x 12)])),
  fun _ _ _ => none,
  fun x w e => some (.inr (7, [.int (x 0), .int (x 1), .int (x 2), .int (x 3), .int (x 4), .ref e, .int (x 6), .int (x 7), .int (x 8), .int (x 9), .int (x 10), .int (x 11), .int (x 12)])),
  fun _ _ _ => none,
  fun _ _ _ => some (.inl (E.2 4, 10, .inr (.inr (.inr (.inr (fun j => if j < 10 then some (b + (82 + j)) else none)))))),
  fun x _ _ => some (.inl (E.2 1, 64, .inl x)),
  fun x _ _ => some (.inl (E.2 1, 64, .inl x)),
  fun x _ _ => some (.inl (E.2 1, 64, .inl x)),
  fun x _ _ => some (.inl (E.2 1, 64, .inl x)),
  fun x _ _ => some (.inl (E.2 1, 64, .inl x)),
  fun x _ _ => some (.inl (E.2 1, 64, .inl x)),
  fun x _ _ => some (.inl (E.2 1, 64, .inl x)),
  fun x _ _ => some (.inl (E.2 1, 64, .inl x))]
def zLay5 (E : zE) (b : Nat) : List zF := [fun x _ _ => some (.inl (E.2 1, 64, .inl x)),
  fun x _ _ => some (.inl (E.2 1, 64, .inl x)),
  fun x _ _ => some (.inl (E.2 1, 10, .inl x)),
  fun x _ _ => some (.inl (E.2 1, 10, .inl x)),
  fun _ _ _ => some (.inl (E.2 4, 10, .inr (.inr (.inr (.inr (fun j => if j < 10 then some (b + (95 + j)) else none)))))),
  fun x _ _ => some (.inl (E.2 1, 60, .inl x)),
  fun x _ _ => some (.inl (E.2 1, 60, .inl x)),
  fun x _ _ => some (.inl (E.2 1, 60, .inl x)),
  fun x _ _ => some (.inl (E.2 1, 60, .inl x)),
  fun x _ _ => some (.inl (E.2 1, 60, .inl x)),
  fun x _ _ => some (.inl (E.2 1, 60, .inl x)),
  fun x _ _ => some (.inl (E.2 1, 60, .inl x)),
  fun x _ _ => some (.inl (E.2 1, 60, .inl x)),
  fun x _ _ => some (.inl (E.2 1, 60, .inl x)),
  fun x _ _ => some (.inl (E.2 1, 60, .inl x)),
  fun x _ _ => some (.inl (E.2 1, 10, .inl x)),
  fun x w e => some (.inr (5, [.ref (b + 107), .int (x 1), .int (x 2), .long w, .int (x 4)])),
  fun x _ _ => some (.inl (E.2 1, 64, .inl x))]
def zLay6 (E : zE) (b : Nat) : List zF := [fun x _ _ => some (.inl (E.2 1, 64, .inl x)),
  fun x _ _ => some (.inl (E.2 1, 64, .inl x)),
  fun _ _ _ => none,
  fun x w e => some (.inr (9, [.ref (b + 112), .ref (b + 113), .ref (b + 114), .ref (b + 115), .ref (b + 116), .ref (b + 117), .ref (b + 118), .ref (b + 119), .ref (b + 120), .ref (b + 121), .ref (b + 122), .ref (b + 123), .int (x 12), .int (x 13), .int (x 14), .int (x 15), .int (x 16), .int (x 17), .int (x 18), .int (x 19), .int (x 20), .int (x 21), .int (x 22), .int (x 23), .int (x 24), .long w])),
  fun x _ _ => some (.inl (E.2 1, 704, .inl x)),
  fun x _ _ => some (.inl (E.2 1, 704, .inl x)),
  fun x _ _ => some (.inl (E.2 1, 10, .inl x)),
  fun x _ _ => some (.inl (E.2 1, 10, .inl x)),
  fun x _ _ => some (.inl (E.2 1, 10, .inl x)),
  fun x _ _ => some (.inl (E.2 1, 10, .inl x)),
  fun x _ _ => some (.inl (E.2 1, 40, .inl x)),
  fun x _ _ => some (.inl (E.2 1, 40, .inl x)),
  fun x _ _ => some (.inl (E.2 1, 10, .inl x)),
  fun x _ _ => some (.inl (E.2 1, 10, .inl x)),
  fun x _ _ => some (.inl (E.2 1, 64, .inl x)),
  fun x _ _ => some (.inl (E.2 2, 10, .inl x)),
  fun _ w _ => some (.inl (E.2 5, 1, .inr (.inl (fun _ => w)))),
  fun _ w _ => some (.inl (E.2 6, 1, .inr (.inr (.inr (.inl (fun _ => w.toUInt64))))))]
def zLay (E : zE) (b : Nat) : List zF := zLay0 E b ++ (zLay1 E b ++ (zLay2 E b ++ (zLay3 E b ++ (zLay4 E b ++ (zLay5 E b ++ (zLay6 E b))))))
def zcell (E : zE) (b i : Nat) (x : Nat → Int32) (w : Int64) (e : Nat) : Option va_E := match (zLay E b)[i]? with
  | some f => f x w e
  | none => none
def zenv (i : Nat) : Bool := i == 38 || i == 40 || i == 42 || i == 44 || i == 74 || i == 76 || i == 78 || i == 80 || i == 110
def zhold (i : Nat) : Bool := i == 0 || i == 37 || i == 39 || i == 41 || i == 43 || i == 73 || i == 75 || i == 77 || i == 79
/-- an envelope's object at q -/
def zEv (E : zE) (b q : Nat) (x : Nat → Int32) (H : Heap) : Prop := b ≤ q ∧ (∀ j, j < 126 → zenv j = false → q ≠ b + j) ∧ va_at E.1 vwCl (q, .inr (4, [.int (x 0), .int (x 1), .int (x 2), .int (x 3)])) H
/-- the system's picture: c what the cells hold, w their long, en where a holder's envelope lies, ea what that holds -/
def zH (E : zE) (b : Nat) (c : Nat → Nat → Int32) (w : Nat → Int64) (en : Nat → Nat) (ea : Nat → Nat → Int32) (H : Heap) : Prop :=
  (∀ (i : Nat) (e0 : va_E), i < 126 → zcell E b i (c i) (w i) (en i) = some e0 → va_at E.1 vwCl (b + i, e0) H) ∧ ∀ i : Nat, zhold i = true → zEv E b (en i) (ea i) H
theorem zH.to {E : zE} {b : Nat} {c c' : Nat → Nat → Int32} {w w' : Nat → Int64} {en : Nat → Nat} {ea : Nat → Nat → Int32} {H : Heap} (h : zH E b c w en ea H) (h1 : ∀ i, i < 126 → zcell E b i (c' i) (w' i) (en i) = zcell E b i (c i) (w i) (en i)) : zH E b c' w' en ea H := ⟨fun i e0 hi hc => h.1 i e0 hi ((h1 i hi) ▸ hc), h.2⟩
theorem zEv.kept {E : zE} {b q : Nat} {x : Nat → Int32} {H H1 : Heap} (h : zEv E b q x H) (hq : H1[q]? = H[q]?) : zEv E b q x H1 := ⟨h.1, h.2.1, h.2.2.kept hq⟩
/-- one cell is written -/
theorem zH.set {E : zE} {b : Nat} {c : Nat → Nat → Int32} {w : Nat → Int64} {en : Nat → Nat} {ea : Nat → Nat → Int32} {H H1 : Heap} (h : zH E b c w en ea H) {i : Nat} (hi : i < 126) (hz : zenv i = false) {x : Nat → Int32} {w1 : Int64} {e1 : va_E} (hc : zcell E b i x w1 (en i) = some e1) (hat : va_at E.1 vwCl (b + i, e1) H1) (oq : ∀ q : Nat, q ≠ b + i → H1[q]? = H[q]?) : zH E b (va_up c i x) (va_up w i w1) en ea H1 := by
  refine ⟨fun j e0 hj hcj => ?_, fun j hj => (h.2 j hj).kept (oq _ ((h.2 j hj).2.1 i hi hz))⟩
  by_cases hji : j = i
  · subst hji
    rw [va_up_self, va_up_self, hc] at hcj
    cases hcj
    exact hat
  · rw [va_up_ne _ _ hji, va_up_ne _ _ hji] at hcj
    exact (h.1 j e0 hj hcj).kept (oq _ (by show b + j ≠ b + i; omega))
theorem zup_w {w : Nat → Int64} {i : Nat} : va_up w i (w i) = w := by
  funext j
  by_cases h : j = i
  · subst h; simp [va_up]
  · simp [va_up, h]
theorem zH.setc {E : zE} {b : Nat} {c : Nat → Nat → Int32} {w : Nat → Int64} {en : Nat → Nat} {ea : Nat → Nat → Int32} {H H1 : Heap} (h : zH E b c w en ea H) {i : Nat} (hi : i < 126) (hz : zenv i = false) {x : Nat → Int32} {e1 : va_E} (hc : zcell E b i x (w i) (en i) = some e1) (hat : va_at E.1 vwCl (b + i, e1) H1) (oq : ∀ q : Nat, q ≠ b + i → H1[q]? = H[q]?) : zH E b (va_up c i x) w en ea H1 := by
  have h9 := h.set hi hz hc hat oq
  rwa [zup_w] at h9
/-- one cell with its envelope -/
theorem zH.sete {E : zE} {b : Nat} {c : Nat → Nat → Int32} {w : Nat → Int64} {en : Nat → Nat} {ea : Nat → Nat → Int32} {H H1 : Heap} (h : zH E b c w en ea H) {i q : Nat} {x : Nat → Int32} (hi : i < 126) (hz : zenv i = false) (hv : zEv E b q x H) {e1 : va_E} (hc : zcell E b i (c i) (w i) q = some e1) (hat : va_at E.1 vwCl (b + i, e1) H1) (oq : ∀ q : Nat, q ≠ b + i → H1[q]? = H[q]?) : zH E b c w (va_up en i q) (va_up ea i x) H1 := by
  refine ⟨fun j e0 hj hcj => ?_, fun j hj => ?_⟩
  · by_cases hji : j = i
    · subst hji
      rw [va_up_self, hc] at hcj
      cases hcj
      exact hat
    · rw [va_up_ne _ _ hji] at hcj
      exact (h.1 j e0 hj hcj).kept (oq _ (by show b + j ≠ b + i; omega))
  · by_cases hji : j = i
    · subst hji
      rw [va_up_self, va_up_self]
      exact hv.kept (oq _ (hv.2.1 j hi hz))
    · rw [va_up_ne _ _ hji, va_up_ne _ _ hji]
      exact (h.2 j hj).kept (oq _ ((h.2 j hj).2.1 i hi hz))
theorem zone {D : va_G} {cl : List vw_C} {x : Nat × va_E} {H : Heap} (h : va_at D cl x H) : va_P D cl [x] H := fun k q hq => by
  cases k with
  | zero => cases hq; exact h
  | succ k => simp at hq
theorem zarr {cI : ClassId} {N : Nat} {f g : Nat → Value} (h : ∀ j, j < N → f j = g j) : arrV cI N f = arrV cI N g := by
  unfold arrV
  congr 1
  apply Array.ext
  · simp
  · intro i h1 h2
    simp at h1
    simp [h i h1]
section ZW
variable {p : Program} {l : Launch} {e : Env} {R : Room} {s : State} {m : MethodId} {args : Array Value} {below : List Frame} {meth : Method} {c : Code} {Q : State → Prop} {nL b : Nat} {pc : Nat} {L : List (Nat × Value)} {rest : List Value} {k n : Nat}
variable {cc : ByteArray} {own : String} {E : zE} {H : Heap} {locs : List Loc} {ls : Array Slot}
/-- a field is written: the rest of the heap stays -/
theorem zr_put (B : zC p s m args meth c cc nL own E b) {C : String} {T : u_T} {N ci index a : Nat} {fs : List Value} {v : Value} {ty : FieldType} (hin : ∀ w ∈ u_ws C T N, w ∈ zAll) (ty0 : Nat → FieldType) (hty : ∀ j, j < N → parseFieldDescriptor (T j).2.2.1 = some (ty0 j)) (hnm : ∀ i, i < N → ∀ j, j < N → i ≠ j → (T i).2.1 ≠ (T j).2.1) (hc : vwCl[ci]? = some (C, T, N)) (f : Nat) (hf : f < N) (hlink : (Cond.fieldLink own index (T f).1 (T f).2.1 (T f).2.2.1).before args s = true) (hfin : (T f).2.2.2 = false) (hd : parseFieldDescriptor (T f).2.2.1 = some ty) (hn9 : narrow ty v = v) (hfit : fits ty v = true) (hl : f < fs.length) (d : decode cc pc = .ok (.putfield index, 3)) (hS : va_S (zA b) s.heap H locs) (ha : b ≤ a) (hat : va_at E.1 vwCl (a, .inr (ci, fs)) H)
    (kk : ∀ (H1 : Heap) (locs1 : List Loc), va_at E.1 vwCl (a, .inr (ci, fs.set f v)) H1 → (∀ q : Nat, q ≠ a → H1[q]? = H[q]?) → va_S (zA b) s.heap H1 locs1 → W p l e R s m args below meth c H1 locs1 k n Q (F0 m (pc + 3) ls rest)) : W p l e R s m args below meth c H locs k n Q (F0 m pc ls (v :: .ref a :: rest)) := by
  have hK := B.2.2.2.2.2.1.1
  have hap := va_apart (own := own) B.2.2.2.2.1 hin ty0 hty hnm hK hc
  obtain ⟨r, h1, cell, q1, q2, q3, q4⟩ := hat
  have hr : r = (C, T, N) := Option.some.inj (h1.symm.trans hc)
  subst hr
  obtain ⟨hSl, hfc, kC, hkC, hkind⟩ := hK.1 ci _ hc
  obtain ⟨cf, kf, fi, fd, hi, hsl⟩ := hSl f hf
  have hlay := B.2.2.2.2.1 _ (hin _ (u_in_lay hf))
  unfold u_lay at hlay
  rw [if_neg (by rw [hfin]; decide)] at hlay
  have hst := (u_facts hfc hkC (u_lays B.2.2.2.2.1 hin hf) hi).1
  have h6 := u_store hfc hkC hkind hlay hi hd hn9 hfit
  refine W.putK B.1 B.2.1 (f := fd) ⟨B.2.2.2.1, hlink, ⟨_, _, _, hi⟩, hst⟩ (by rw [q2]; exact h6) q1 q3 (by rw [hsl]; exact k2_hasslot (q4 f hf)) rfl rfl d fun H' e1 e2 e3 => ?_
  rw [hsl] at e1 ⊢
  exact kk H' _ ⟨_, hc, t_OB.to (V := updV (vp_V fs) f v) ⟨_, e1, q2, q3, t_set q4 hap hf v⟩ (fun j _ => vp_updV_set hl v j)⟩ e3 (hS.put e2 e3 ha)

theorem zr_iast (B : zC p s m args meth c cc nL own E b) {a N jj : Nat} {j x : Int32} {f : Nat → Int32} (hj : j = nI jj) (hlt : jj < N) (hN : N < 2 ^ 31) (d : decode cc pc = .ok (.iastore, 1)) (hS : va_S (zA b) s.heap H locs) (ha : b ≤ a) (hat : va_at E.1 vwCl (a, .inl (E.2 1, N, .inl f)) H)
    (kk : ∀ (H1 : Heap) (locs1 : List Loc), va_at E.1 vwCl (a, .inl (E.2 1, N, .inl (upd f jj x))) H1 → (∀ q : Nat, q ≠ a → H1[q]? = H[q]?) → va_S (zA b) s.heap H1 locs1 → W p l e R s m args below meth c H1 locs1 k n Q (F0 m (pc + 1) ls rest)) : W p l e R s m args below meth c H locs k n Q (F0 m pc ls (.int x :: .int j :: .ref a :: rest)) := by
  subst hj
  have hjn : (nI jj).toNatClampNeg = jj := nI_clamp (Nat.lt_trans hlt hN)
  have hin : vp_in (nI jj) N := vp_in_nI hlt hN
  refine W.iast B.1 B.2.1 hat ((B.2.2.2.2.2.1.1.2 1 _ rfl).1 N (fun j => .int (f j))) (fun q => by cases q) (by show ¬ (nI jj < 0 ∨ (arrV _ _ _).slots.size ≤ _); rw [arrV_size]; exact hin) rfl rfl d fun H1 e1 z oq => ?_
  refine kk H1 _ ?_ oq (hS.put z oq ha)
  show H1[a]? = some (vp_cell _ _)
  rw [e1, vp_cell_i, vp_cell_i, hjn, arrV_store]
  congr 2
  funext q
  by_cases hq : q = jj
  · subst hq
    simp [updV, upd]
  · simp [updV, upd, hq]
theorem zr_cast (B : zC p s m args meth c cc nL own E b) {a N jj : Nat} {j x : Int32} {f : Nat → Int32} (hj : j = nI jj) (hlt : jj < N) (hN : N < 2 ^ 31) (hnar : narrow .char (.int x) = .int x) (d : decode cc pc = .ok (.castore, 1)) (hS : va_S (zA b) s.heap H locs) (ha : b ≤ a) (hat : va_at E.1 vwCl (a, .inl (E.2 0, N, .inl f)) H)
    (kk : ∀ (H1 : Heap) (locs1 : List Loc), va_at E.1 vwCl (a, .inl (E.2 0, N, .inl (upd f jj x))) H1 → (∀ q : Nat, q ≠ a → H1[q]? = H[q]?) → va_S (zA b) s.heap H1 locs1 → W p l e R s m args below meth c H1 locs1 k n Q (F0 m (pc + 1) ls rest)) : W p l e R s m args below meth c H locs k n Q (F0 m pc ls (.int x :: .int j :: .ref a :: rest)) := by
  subst hj
  have hjn : (nI jj).toNatClampNeg = jj := nI_clamp (Nat.lt_trans hlt hN)
  have hin : vp_in (nI jj) N := vp_in_nI hlt hN
  refine W.cast B.1 B.2.1 hat ((B.2.2.2.2.2.1.1.2 0 _ rfl).1 N (fun j => .int (f j))) (fun q => by cases q) (by show ¬ (nI jj < 0 ∨ (arrV _ _ _).slots.size ≤ _); rw [arrV_size]; exact hin) rfl rfl d fun H1 e1 z oq => ?_
  refine kk H1 _ ?_ oq (hS.put z oq ha)
  show H1[a]? = some (vp_cell _ _)
  rw [e1, vp_cell_i, vp_cell_i, hjn, hnar, arrV_store]
  congr 2
  funext q
  by_cases hq : q = jj
  · subst hq
    simp [updV, upd]
  · simp [updV, upd, hq]
theorem zr_zast (B : zC p s m args meth c cc nL own E b) {a N jj : Nat} {j x : Int32} {f : Nat → Int32} (hj : j = nI jj) (hlt : jj < N) (hN : N < 2 ^ 31) (hnar : narrow .boolean (.int x) = .int x) (d : decode cc pc = .ok (.bastore, 1)) (hS : va_S (zA b) s.heap H locs) (ha : b ≤ a) (hat : va_at E.1 vwCl (a, .inl (E.2 2, N, .inl f)) H)
    (kk : ∀ (H1 : Heap) (locs1 : List Loc), va_at E.1 vwCl (a, .inl (E.2 2, N, .inl (upd f jj x))) H1 → (∀ q : Nat, q ≠ a → H1[q]? = H[q]?) → va_S (zA b) s.heap H1 locs1 → W p l e R s m args below meth c H1 locs1 k n Q (F0 m (pc + 1) ls rest)) : W p l e R s m args below meth c H locs k n Q (F0 m pc ls (.int x :: .int j :: .ref a :: rest)) := by
  subst hj
  have hjn : (nI jj).toNatClampNeg = jj := nI_clamp (Nat.lt_trans hlt hN)
  have hin : vp_in (nI jj) N := vp_in_nI hlt hN
  refine W.zast B.1 B.2.1 hat ((B.2.2.2.2.2.1.1.2 2 _ rfl).1 N (fun j => .int (f j))) (fun q => by cases q) (by show ¬ (nI jj < 0 ∨ (arrV _ _ _).slots.size ≤ _); rw [arrV_size]; exact hin) rfl rfl d fun H1 e1 z oq => ?_
  refine kk H1 _ ?_ oq (hS.put z oq ha)
  show H1[a]? = some (vp_cell _ _)
  rw [e1, vp_cell_i, vp_cell_i, hjn, hnar, arrV_store]
  congr 2
  funext q
  by_cases hq : q = jj
  · subst hq
    simp [updV, upd]
  · simp [updV, upd, hq]
theorem zr_last (B : zC p s m args meth c cc nL own E b) {a N jj : Nat} {j : Int32} {x : Int64} {f g : Nat → Int64} (hj : j = nI jj) (hlt : jj < N) (hN : N < 2 ^ 31) (hg : ∀ q, q < N → g q = if q = jj then x else f q) (d : decode cc pc = .ok (.lastore, 1)) (hS : va_S (zA b) s.heap H locs) (ha : b ≤ a) (hat : va_at E.1 vwCl (a, .inl (E.2 5, N, .inr (.inl f))) H)
    (kk : ∀ (H1 : Heap) (locs1 : List Loc), va_at E.1 vwCl (a, .inl (E.2 5, N, .inr (.inl g))) H1 → (∀ q : Nat, q ≠ a → H1[q]? = H[q]?) → va_S (zA b) s.heap H1 locs1 → W p l e R s m args below meth c H1 locs1 k n Q (F0 m (pc + 1) ls rest)) : W p l e R s m args below meth c H locs k n Q (F0 m pc ls (.long x :: .int j :: .ref a :: rest)) := by
  subst hj
  have hjn : (nI jj).toNatClampNeg = jj := nI_clamp (Nat.lt_trans hlt hN)
  have hin : vp_in (nI jj) N := vp_in_nI hlt hN
  refine W.last B.1 B.2.1 hat ((B.2.2.2.2.2.1.1.2 5 _ rfl).1 N (fun j => .long (f j))) (fun q => by cases q) (by show ¬ (nI jj < 0 ∨ (arrV _ _ _).slots.size ≤ _); rw [arrV_size]; exact hin) rfl rfl d fun H1 e1 z oq => ?_
  refine kk H1 _ ?_ oq (hS.put z oq ha)
  show H1[a]? = some (vp_cell _ _)
  rw [e1, vp_cell_l, vp_cell_l, hjn, arrV_store]
  refine congrArg some (zarr ?_)
  intro q hq
  rw [hg q hq]
  by_cases h : q = jj
  · subst h
    simp [updV]
  · simp [updV, h]
theorem zr_dast (B : zC p s m args meth c cc nL own E b) {a N jj : Nat} {j : Int32} {x : UInt64} {f g : Nat → UInt64} (hj : j = nI jj) (hlt : jj < N) (hN : N < 2 ^ 31) (hg : ∀ q, q < N → g q = if q = jj then x else f q) (d : decode cc pc = .ok (.dastore, 1)) (hS : va_S (zA b) s.heap H locs) (ha : b ≤ a) (hat : va_at E.1 vwCl (a, .inl (E.2 6, N, .inr (.inr (.inr (.inl f))))) H)
    (kk : ∀ (H1 : Heap) (locs1 : List Loc), va_at E.1 vwCl (a, .inl (E.2 6, N, .inr (.inr (.inr (.inl g))))) H1 → (∀ q : Nat, q ≠ a → H1[q]? = H[q]?) → va_S (zA b) s.heap H1 locs1 → W p l e R s m args below meth c H1 locs1 k n Q (F0 m (pc + 1) ls rest)) : W p l e R s m args below meth c H locs k n Q (F0 m pc ls (.double x :: .int j :: .ref a :: rest)) := by
  subst hj
  have hjn : (nI jj).toNatClampNeg = jj := nI_clamp (Nat.lt_trans hlt hN)
  have hin : vp_in (nI jj) N := vp_in_nI hlt hN
  refine W.dast B.1 B.2.1 hat ((B.2.2.2.2.2.1.1.2 6 _ rfl).1 N (fun j => .double (f j))) (fun q => by cases q) (by show ¬ (nI jj < 0 ∨ (arrV _ _ _).slots.size ≤ _); rw [arrV_size]; exact hin) rfl rfl d fun H1 e1 z oq => ?_
  refine kk H1 _ ?_ oq (hS.put z oq ha)
  show H1[a]? = some (vp_cell _ _)
  rw [e1, vp_cell_d, vp_cell_d, hjn, arrV_store]
  refine congrArg some (zarr ?_)
  intro q hq
  rw [hg q hq]
  by_cases h : q = jj
  · subst h
    simp [updV]
  · simp [updV, h]
end ZW
end
section
/-! rows that read and write the system's picture -/
def zup (c : Nat → Nat → Int32) (i k : Nat) (v : Int32) : Nat → Nat → Int32 := va_up c i (upd (c i) k v)
theorem zup_s (c : Nat → Nat → Int32) (i k : Nat) (v : Int32) : zup c i k v i k = v := by simp [zup, va_up, upd]
theorem zup_k (c : Nat → Nat → Int32) {i k k' : Nat} (v : Int32) (h : k' ≠ k) : zup c i k v i k' = c i k' := by simp [zup, va_up, upd, h]
theorem zup_i (c : Nat → Nat → Int32) {i i' : Nat} (k : Nat) (v : Int32) (h : i' ≠ i) : zup c i k v i' = c i' := by simp [zup, va_up, h]
theorem zup_at (c : Nat → Nat → Int32) (i k : Nat) (v : Int32) (i' k' : Nat) : zup c i k v i' k' = if i' = i ∧ k' = k then v else c i' k' := by
  by_cases h : i' = i <;> by_cases h2 : k' = k <;> simp [zup, va_up, upd, h, h2]
theorem zat {E : zE} {b : Nat} {c : Nat → Nat → Int32} {w : Nat → Int64} {en : Nat → Nat} {ea : Nat → Nat → Int32} {i : Nat} {e0 : va_E} (hi : i < 126) (hc : zcell E b i (c i) (w i) (en i) = some e0) : ∀ H, zH E b c w en ea H → va_at E.1 vwCl (b + i, e0) H := fun H h => h.1 i e0 hi hc
theorem zae {E : zE} {b : Nat} {c : Nat → Nat → Int32} {w : Nat → Int64} {en : Nat → Nat} {ea : Nat → Nat → Int32} (i : Nat) (hi : zhold i = true) : ∀ H, zH E b c w en ea H → zEv E b (en i) (ea i) H := fun H h => h.2 i hi
theorem zaev {E : zE} {b q : Nat} {x : Nat → Int32} {P : Heap → Prop} (h : ∀ H, P H → zEv E b q x H) : ∀ H, P H → va_at E.1 vwCl (q, .inr (4, [.int (x 0), .int (x 1), .int (x 2), .int (x 3)])) H := fun H hP => (h H hP).2.2
theorem zid {P : Heap → Prop} : ∀ H, P H → P H := fun _ h => h
section Z9
variable {p : Program} {l : Launch} {e : Env} {R : Room} {s : State} {m : MethodId} {args : Array Value} {below : List Frame} {meth : Method} {c9 : Code} {Q : State → Prop} {nL b : Nat} {P : Heap → Prop} {pc : Nat} {L : List (Nat × Value)} {st : List Value} {k n : Nat}
variable {cc : ByteArray} {own : String} {E : zE} {c : Nat → Nat → Int32} {w : Nat → Int64} {en : Nat → Nat} {ea : Nat → Nat → Int32}
theorem zC.at {wd : Cond} (B : zC p s m args meth c9 cc nL own E b) (h : wd ∈ zAll) : wd.before args s = true := B.2.2.2.2.1 wd h
theorem zv_get {q ci i N : Nat} {fs : List Value} {C : String} {T : u_T} {v : Value} (B : zC p s m args meth c9 cc nL own E b) (hat : ∀ H, P H → va_at E.1 vwCl (q, .inr (ci, fs)) H) (hc : vwCl[ci]? = some (C, T, N)) (hin : ∀ w ∈ u_ws C T N, w ∈ zAll) (f : Nat) (hf : f < N) (hlink : Cond.fieldLink own i (T f).1 (T f).2.1 (T f).2.2.1 ∈ zAll) (hv : fs[f]? = some v) (d : decode cc pc = .ok (.getfield i, 3))
    (kk : zV p l e R s m args below meth c9 Q nL b P (pc + 3) L (v :: st) k n) : zV p l e R s m args below meth c9 Q nL b P pc L (.ref q :: st) k n := fun H locs ls hP hS hl => va_get (D := E.1) B.1 B.2.1 B.2.2.2.2.1 hin B.2.2.2.1 B.2.2.2.2.2.1.1 (zone (hat H hP)) 0 rfl hc f hf (B.at hlink) (fun _ h => h) hv d (kk H locs ls hP hS hl)
theorem zrecv {q ci N : Nat} {fs : List Value} {C : String} {T : u_T} (B : zC p s m args meth c9 cc nL own E b) (hat : ∀ H, P H → va_at E.1 vwCl (q, .inr (ci, fs)) H) (hc : vwCl[ci]? = some (C, T, N)) : ∀ H, P H → ∃ cell : Cell, H[q]? = some cell ∧ cell.vm.isStatics = false ∧ s.vm.findClass C = some cell.cls := fun H hP => va_recv (q0 := 0) B.2.2.2.2.2.1.1 (zone (hat H hP)) hc rfl
theorem zv_iald {q N jj : Nat} {j : Int32} {f : Nat → Int32} (B : zC p s m args meth c9 cc nL own E b) (hat : ∀ H, P H → va_at E.1 vwCl (q, .inl (E.2 1, N, .inl f)) H) (hj : j = nI jj) (hlt : jj < N) (hN : N < 2 ^ 31) (d : decode cc pc = .ok (.iaload, 1))
    (kk : zV p l e R s m args below meth c9 Q nL b P (pc + 1) L (.int (f jj) :: st) k n) : zV p l e R s m args below meth c9 Q nL b P pc L (.int j :: .ref q :: st) k n := fun H locs ls hP hS hl => by
  subst hj
  refine va_iald (D := E.1) B.1 B.2.1 B.2.2.2.2.2.1.1 (zone (hat H hP)) 0 1 rfl rfl (vp_in_nI hlt hN) d ?_
  rw [nI_clamp (Nat.lt_trans hlt hN)]
  exact kk H locs ls hP hS hl
theorem zv_cald {q N jj : Nat} {j : Int32} {f : Nat → Int32} (B : zC p s m args meth c9 cc nL own E b) (hat : ∀ H, P H → va_at E.1 vwCl (q, .inl (E.2 0, N, .inl f)) H) (hj : j = nI jj) (hlt : jj < N) (hN : N < 2 ^ 31) (d : decode cc pc = .ok (.caload, 1))
    (kk : zV p l e R s m args below meth c9 Q nL b P (pc + 1) L (.int (f jj) :: st) k n) : zV p l e R s m args below meth c9 Q nL b P pc L (.int j :: .ref q :: st) k n := fun H locs ls hP hS hl => by
  subst hj
  refine va_cald (D := E.1) B.1 B.2.1 B.2.2.2.2.2.1.1 (zone (hat H hP)) 0 0 rfl rfl (vp_in_nI hlt hN) d ?_
  rw [nI_clamp (Nat.lt_trans hlt hN)]
  exact kk H locs ls hP hS hl
theorem zv_zald {q N jj : Nat} {j : Int32} {f : Nat → Int32} (B : zC p s m args meth c9 cc nL own E b) (hat : ∀ H, P H → va_at E.1 vwCl (q, .inl (E.2 2, N, .inl f)) H) (hj : j = nI jj) (hlt : jj < N) (hN : N < 2 ^ 31) (d : decode cc pc = .ok (.baload, 1))
    (kk : zV p l e R s m args below meth c9 Q nL b P (pc + 1) L (.int (f jj) :: st) k n) : zV p l e R s m args below meth c9 Q nL b P pc L (.int j :: .ref q :: st) k n := fun H locs ls hP hS hl => by
  subst hj
  refine va_zald (D := E.1) B.1 B.2.1 B.2.2.2.2.2.1.1 (zone (hat H hP)) 0 2 rfl rfl (vp_in_nI hlt hN) d ?_
  rw [nI_clamp (Nat.lt_trans hlt hN)]
  exact kk H locs ls hP hS hl
theorem zv_lald {q N jj : Nat} {j : Int32} {f : Nat → Int64} (B : zC p s m args meth c9 cc nL own E b) (hat : ∀ H, P H → va_at E.1 vwCl (q, .inl (E.2 5, N, .inr (.inl f))) H) (hj : j = nI jj) (hlt : jj < N) (hN : N < 2 ^ 31) (d : decode cc pc = .ok (.laload, 1))
    (kk : zV p l e R s m args below meth c9 Q nL b P (pc + 1) L (.long (f jj) :: st) k n) : zV p l e R s m args below meth c9 Q nL b P pc L (.int j :: .ref q :: st) k n := fun H locs ls hP hS hl => by
  subst hj
  refine va_lald (D := E.1) B.1 B.2.1 B.2.2.2.2.2.1.1 (zone (hat H hP)) 0 5 rfl rfl (vp_in_nI hlt hN) d ?_
  rw [nI_clamp (Nat.lt_trans hlt hN)]
  exact kk H locs ls hP hS hl
theorem zv_dald {q N jj : Nat} {j : Int32} {f : Nat → UInt64} (B : zC p s m args meth c9 cc nL own E b) (hat : ∀ H, P H → va_at E.1 vwCl (q, .inl (E.2 6, N, .inr (.inr (.inr (.inl f))))) H) (hj : j = nI jj) (hlt : jj < N) (hN : N < 2 ^ 31) (d : decode cc pc = .ok (.daload, 1))
    (kk : zV p l e R s m args below meth c9 Q nL b P (pc + 1) L (.double (f jj) :: st) k n) : zV p l e R s m args below meth c9 Q nL b P pc L (.int j :: .ref q :: st) k n := fun H locs ls hP hS hl => by
  subst hj
  refine va_dald (D := E.1) B.1 B.2.1 B.2.2.2.2.2.1.1 (zone (hat H hP)) 0 6 rfl rfl (vp_in_nI hlt hN) d ?_
  rw [nI_clamp (Nat.lt_trans hlt hN)]
  exact kk H locs ls hP hS hl
theorem zv_vald {q q1 N jj : Nat} {j : Int32} {f : Nat → Option Nat} (B : zC p s m args meth c9 cc nL own E b) (hat : ∀ H, P H → va_at E.1 vwCl (q, .inl (E.2 3, N, .inr (.inr (.inr (.inr f))))) H) (hj : j = nI jj) (hlt : jj < N) (hN : N < 2 ^ 31) (hf : f jj = some q1) (d : decode cc pc = .ok (.aaload, 1))
    (kk : zV p l e R s m args below meth c9 Q nL b P (pc + 1) L (.ref q1 :: st) k n) : zV p l e R s m args below meth c9 Q nL b P pc L (.int j :: .ref q :: st) k n := fun H locs ls hP hS hl => by
  subst hj
  have hin : vp_in (nI jj) N := vp_in_nI hlt hN
  have hjn : (nI jj).toNatClampNeg = jj := nI_clamp (Nat.lt_trans hlt hN)
  refine W.aald (v := .ref q1) (ty := .object "ToneGraph$Voice") B.1 B.2.1 (hat H hP) ((B.2.2.2.2.2.1.1.2 3 _ rfl).1 N (fun j => va_rf (f j))) rfl (fun q => by cases q) (by show ¬ (nI jj < 0 ∨ (arrV _ _ _).slots.size ≤ _); rw [arrV_size]; exact hin) (by show (arrV _ _ _).slots[_]? = _; rw [hjn, arrV_read _ _ hlt, hf]; rfl) rfl rfl d ?_
  exact kk H locs ls hP hS hl
theorem zv_rald {q q1 N jj : Nat} {j : Int32} {f : Nat → Option Nat} (B : zC p s m args meth c9 cc nL own E b) (hat : ∀ H, P H → va_at E.1 vwCl (q, .inl (E.2 4, N, .inr (.inr (.inr (.inr f))))) H) (hj : j = nI jj) (hlt : jj < N) (hN : N < 2 ^ 31) (hf : f jj = some q1) (d : decode cc pc = .ok (.aaload, 1))
    (kk : zV p l e R s m args below meth c9 Q nL b P (pc + 1) L (.ref q1 :: st) k n) : zV p l e R s m args below meth c9 Q nL b P pc L (.int j :: .ref q :: st) k n := fun H locs ls hP hS hl => by
  subst hj
  have hin : vp_in (nI jj) N := vp_in_nI hlt hN
  have hjn : (nI jj).toNatClampNeg = jj := nI_clamp (Nat.lt_trans hlt hN)
  refine W.aald (v := .ref q1) (ty := .array .int) B.1 B.2.1 (hat H hP) ((B.2.2.2.2.2.1.1.2 4 _ rfl).1 N (fun j => va_rf (f j))) rfl (fun q => by cases q) (by show ¬ (nI jj < 0 ∨ (arrV _ _ _).slots.size ≤ _); rw [arrV_size]; exact hin) (by show (arrV _ _ _).slots[_]? = _; rw [hjn, arrV_read _ _ hlt, hf]; rfl) rfl rfl d ?_
  exact kk H locs ls hP hS hl
theorem zs_iast {i N jj : Nat} {j x : Int32} (B : zC p s m args meth c9 cc nL own E b) (hz : ∀ H, P H → zH E b c w en ea H) (hi : i < 126) (he : zenv i = false) (hc : ∀ x w e, zcell E b i x w e = some (.inl (E.2 1, N, .inl x))) (hj : j = nI jj) (hlt : jj < N) (hN : N < 2 ^ 31) (d : decode cc pc = .ok (.iastore, 1))
    (kk : zV p l e R s m args below meth c9 Q nL b (zH E b (zup c i jj x) w en ea) (pc + 1) L st k n) : zV p l e R s m args below meth c9 Q nL b P pc L (.int x :: .int j :: .ref (b + i) :: st) k n := fun H locs ls hP hS hl =>
  zr_iast B hj hlt hN d hS (Nat.le_add_right b i) ((hz H hP).1 i _ hi (hc _ _ _)) (fun H1 locs1 h1 h2 h3 => kk H1 locs1 ls ((hz H hP).setc hi he (hc _ _ _) h1 h2) h3 hl)
theorem zs_cast {i N jj : Nat} {j x : Int32} (B : zC p s m args meth c9 cc nL own E b) (hz : ∀ H, P H → zH E b c w en ea H) (hi : i < 126) (he : zenv i = false) (hc : ∀ x w e, zcell E b i x w e = some (.inl (E.2 0, N, .inl x))) (hj : j = nI jj) (hlt : jj < N) (hN : N < 2 ^ 31) (hnar : narrow .char (.int x) = .int x) (d : decode cc pc = .ok (.castore, 1))
    (kk : zV p l e R s m args below meth c9 Q nL b (zH E b (zup c i jj x) w en ea) (pc + 1) L st k n) : zV p l e R s m args below meth c9 Q nL b P pc L (.int x :: .int j :: .ref (b + i) :: st) k n := fun H locs ls hP hS hl =>
  zr_cast B hj hlt hN hnar d hS (Nat.le_add_right b i) ((hz H hP).1 i _ hi (hc _ _ _)) (fun H1 locs1 h1 h2 h3 => kk H1 locs1 ls ((hz H hP).setc hi he (hc _ _ _) h1 h2) h3 hl)
theorem zs_zast {i N jj : Nat} {j x : Int32} (B : zC p s m args meth c9 cc nL own E b) (hz : ∀ H, P H → zH E b c w en ea H) (hi : i < 126) (he : zenv i = false) (hc : ∀ x w e, zcell E b i x w e = some (.inl (E.2 2, N, .inl x))) (hj : j = nI jj) (hlt : jj < N) (hN : N < 2 ^ 31) (hnar : narrow .boolean (.int x) = .int x) (d : decode cc pc = .ok (.bastore, 1))
    (kk : zV p l e R s m args below meth c9 Q nL b (zH E b (zup c i jj x) w en ea) (pc + 1) L st k n) : zV p l e R s m args below meth c9 Q nL b P pc L (.int x :: .int j :: .ref (b + i) :: st) k n := fun H locs ls hP hS hl =>
  zr_zast B hj hlt hN hnar d hS (Nat.le_add_right b i) ((hz H hP).1 i _ hi (hc _ _ _)) (fun H1 locs1 h1 h2 h3 => kk H1 locs1 ls ((hz H hP).setc hi he (hc _ _ _) h1 h2) h3 hl)
theorem zs_put {i ci f ix N : Nat} {v : Int32} {F : (Nat → Int32) → List Value} {C : String} {T : u_T} {ty : FieldType} (B : zC p s m args meth c9 cc nL own E b) (hz : ∀ H, P H → zH E b c w en ea H) (hi : i < 126) (he : zenv i = false) (hc : ∀ x, zcell E b i x (w i) (en i) = some (.inr (ci, F x))) (hcl : vwCl[ci]? = some (C, T, N)) (hin : ∀ w ∈ u_ws C T N, w ∈ zAll) (ty0 : Nat → FieldType) (hty : ∀ j, j < N → parseFieldDescriptor (T j).2.2.1 = some (ty0 j)) (hnm : ∀ i, i < N → ∀ j, j < N → i ≠ j → (T i).2.1 ≠ (T j).2.1) (hf : f < N) (hlink : Cond.fieldLink own ix (T f).1 (T f).2.1 (T f).2.2.1 ∈ zAll) (hfin : (T f).2.2.2 = false) (hd : parseFieldDescriptor (T f).2.2.1 = some ty) (hn9 : narrow ty (.int v) = .int v) (hfit : fits ty (.int v) = true) (hl9 : f < (F (c i)).length) (hF : (F (c i)).set f (.int v) = F (upd (c i) f v)) (d : decode cc pc = .ok (.putfield ix, 3))
    (kk : zV p l e R s m args below meth c9 Q nL b (zH E b (zup c i f v) w en ea) (pc + 3) L st k n) : zV p l e R s m args below meth c9 Q nL b P pc L (.int v :: .ref (b + i) :: st) k n := fun H locs ls hP hS hl =>
  zr_put B hin ty0 hty hnm hcl f hf (B.at hlink) hfin hd hn9 hfit hl9 d hS (Nat.le_add_right b i) ((hz H hP).1 i _ hi (hc _)) (fun H1 locs1 h1 h2 h3 => kk H1 locs1 ls ((hz H hP).setc hi he (hc _) (by rw [hF] at h1; exact h1) h2) h3 hl)
theorem zs_putl {i ci f ix N : Nat} {v : Int64} {F : Int64 → List Value} {C : String} {T : u_T} (B : zC p s m args meth c9 cc nL own E b) (hz : ∀ H, P H → zH E b c w en ea H) (hi : i < 126) (he : zenv i = false) (hc : ∀ w1, zcell E b i (c i) w1 (en i) = some (.inr (ci, F w1))) (hcl : vwCl[ci]? = some (C, T, N)) (hin : ∀ w ∈ u_ws C T N, w ∈ zAll) (ty0 : Nat → FieldType) (hty : ∀ j, j < N → parseFieldDescriptor (T j).2.2.1 = some (ty0 j)) (hnm : ∀ i, i < N → ∀ j, j < N → i ≠ j → (T i).2.1 ≠ (T j).2.1) (hf : f < N) (hlink : Cond.fieldLink own ix (T f).1 (T f).2.1 (T f).2.2.1 ∈ zAll) (hfin : (T f).2.2.2 = false) (hd : parseFieldDescriptor (T f).2.2.1 = some .long) (hl9 : f < (F (w i)).length) (hF : (F (w i)).set f (.long v) = F v) (d : decode cc pc = .ok (.putfield ix, 3))
    (kk : zV p l e R s m args below meth c9 Q nL b (zH E b c (va_up w i v) en ea) (pc + 3) L st k n) : zV p l e R s m args below meth c9 Q nL b P pc L (.long v :: .ref (b + i) :: st) k n := fun H locs ls hP hS hl =>
  zr_put B hin ty0 hty hnm hcl f hf (B.at hlink) hfin hd rfl rfl hl9 d hS (Nat.le_add_right b i) ((hz H hP).1 i _ hi (hc _)) (fun H1 locs1 h1 h2 h3 => kk H1 locs1 ls (by
    have h9 := (hz H hP).set (x := c i) hi he (hc v) (by rw [hF] at h1; exact h1) h2
    have e9 : va_up c i (c i) = c := by
      funext j
      by_cases h : j = i
      · subst h; simp [va_up]
      · simp [va_up, h]
    rwa [e9] at h9) h3 hl)
theorem zs_pute {i ci f ix N q : Nat} {x : Nat → Int32} {F : Nat → List Value} {C : String} {T : u_T} (B : zC p s m args meth c9 cc nL own E b) (hz : ∀ H, P H → zH E b c w en ea H) (hv : ∀ H, P H → zEv E b q x H) (hi : i < 126) (he : zenv i = false) (hc : ∀ e1, zcell E b i (c i) (w i) e1 = some (.inr (ci, F e1))) (hcl : vwCl[ci]? = some (C, T, N)) (hin : ∀ w ∈ u_ws C T N, w ∈ zAll) (ty0 : Nat → FieldType) (hty : ∀ j, j < N → parseFieldDescriptor (T j).2.2.1 = some (ty0 j)) (hnm : ∀ i, i < N → ∀ j, j < N → i ≠ j → (T i).2.1 ≠ (T j).2.1) (hf : f < N) (hlink : Cond.fieldLink own ix (T f).1 (T f).2.1 (T f).2.2.1 ∈ zAll) (hfin : (T f).2.2.2 = false) {ty : FieldType} (hd : parseFieldDescriptor (T f).2.2.1 = some ty) (hn9 : narrow ty (.ref q) = .ref q) (hfit : fits ty (.ref q) = true) (hl9 : f < (F (en i)).length) (hF : (F (en i)).set f (.ref q) = F q) (d : decode cc pc = .ok (.putfield ix, 3))
    (kk : zV p l e R s m args below meth c9 Q nL b (zH E b c w (va_up en i q) (va_up ea i x)) (pc + 3) L st k n) : zV p l e R s m args below meth c9 Q nL b P pc L (.ref q :: .ref (b + i) :: st) k n := fun H locs ls hP hS hl =>
  zr_put B hin ty0 hty hnm hcl f hf (B.at hlink) hfin hd hn9 hfit hl9 d hS (Nat.le_add_right b i) ((hz H hP).1 i _ hi (hc _)) (fun H1 locs1 h1 h2 h3 => kk H1 locs1 ls ((hz H hP).sete hi he (hv H hP) (hc _) (by rw [hF] at h1; exact h1) h2) h3 hl)
/-- the table of the steps -/
theorem zv_gets {i : Nat} (B : zC p s m args meth c9 cc nL own E b) (hlink : Cond.fieldLink own i "ToneGraph" "LOWEST_STEPS" "[I" ∈ zAll) (d : decode cc pc = .ok (.getstatic i, 3)) (kk : ∀ t : Nat, va_T .int t 12 (fun j => .int (zstp j)) (zA b) s s.heap → zV p l e R s m args below meth c9 Q nL b P (pc + 3) L (.ref t :: st) k n) : zV p l e R s m args below meth c9 Q nL b P pc L st k n := fun H locs ls hP hS hl => by
  obtain ⟨t, h1, h2⟩ := B.2.2.2.2.2.1.2.1.1
  exact va_gets B.1 B.2.1 h1 hS B.2.2.2.1 (B.at hlink) (fun _ h => h) d (kk t h2 H locs ls hP hS hl)
theorem zv_ti {t jj : Nat} {j : Int32} (B : zC p s m args meth c9 cc nL own E b) (hT : va_T .int t 12 (fun j => .int (zstp j)) (zA b) s s.heap) (hj : j = nI jj) (hlt : jj < 12) (d : decode cc pc = .ok (.iaload, 1)) (kk : zV p l e R s m args below meth c9 Q nL b P (pc + 1) L (.int (zstp jj) :: st) k n) : zV p l e R s m args below meth c9 Q nL b P pc L (.int j :: .ref t :: st) k n := fun H locs ls hP hS hl => by
  subst hj
  exact va_ti B.1 B.2.1 hT hS (vp_in_nI hlt (by omega)) (by rw [nI_clamp (by omega)]) d (kk H locs ls hP hS hl)
/-- System.arraycopy between two rows of ints -/
theorem zr_copy {i a0 a n0 n1 sp dp nn : Nat} {f g : Nat → Int32} {H : Heap} {locs : List Loc} {ls : Array Slot} {rest : List Value} (B : zC p s m args meth c9 cc nL own E b) (hw1 : Cond.methodLink own i arraycopyName ∈ zAll) (hw2 : Cond.native arraycopyName ∈ zAll) (hw3 : Cond.static arraycopyName ∈ zAll) (hw4 : Cond.initialized "java/lang/System" ∈ zAll) (hsz : ls.size = nL)
    (hat0 : va_at E.1 vwCl (a0, .inl (E.2 1, n0, .inl f)) H) (hat1 : va_at E.1 vwCl (a, .inl (E.2 1, n1, .inl g)) H) (ha : b ≤ a) (h4 : sp + nn ≤ n0) (h5 : dp + nn ≤ n1) (hb0 : n0 < 2 ^ 31) (hb1 : n1 < 2 ^ 31) (hf : 1 ≤ R.frames) (hlo : (rest.map fun v => v.category).sum + (nativeFrameWords "java/lang/System" "arraycopy" 5 + 11) ≤ R.locals) (d : decode cc pc = .ok (.invokestatic i, 3)) (hS : va_S (zA b) s.heap H locs)
    (kk : ∀ (H1 : Heap) (locs1 : List Loc), va_at E.1 vwCl (a, .inl (E.2 1, n1, .inl (va_cpy f g sp dp nn))) H1 → (∀ q : Nat, q ≠ a → H1[q]? = H[q]?) → va_S (zA b) s.heap H1 locs1 → W p l e R s m args below meth c9 H1 locs1 k n Q (F0 m (pc + 3) ls rest)) : W p l e R s m args below meth c9 H locs k n Q (F0 m pc ls (.int (nI nn) :: .int (nI dp) :: .ref a :: .int (nI sp) :: .ref a0 :: rest)) := by
  intro T hT X
  have c1 : (nI nn).toNatClampNeg = nn := nI_clamp (by omega)
  have c2 : (nI dp).toNatClampNeg = dp := nI_clamp (by omega)
  have c3 : (nI sp).toNatClampNeg = sp := nI_clamp (by omega)
  have t1 : (nI nn).toInt = (nn : Int) := nI_toInt (by omega)
  have t2 : (nI dp).toInt = (dp : Int) := nI_toInt (by omega)
  have t3 : (nI sp).toInt = (sp : Int) := nI_toInt (by omega)
  have hc0 : H[a0]? = some (vp_cell (E.2 1) (n0, .inl f)) := hat0
  have hc1 : H[a]? = some (vp_cell (E.2 1) (n1, .inl g)) := hat1
  have hK := B.2.2.2.2.2.1.1
  obtain ⟨-, k0, hk0, cm0, hkk0⟩ := (hK.2 1 _ rfl).1 n0 (fun j => .int (f j))
  obtain ⟨-, k1, hk1, cm1, hkk1⟩ := (hK.2 1 _ rfl).1 n1 (fun j => .int (g j))
  obtain ⟨vm', X', step⟩ := X.arraycopy B.1 B.2.2.2.1 (B.at hw1) (B.at hw2) (B.at hw3) (B.at hw4) (src := a0) (dst := a) (cs := vp_cell (E.2 1) (n0, .inl f)) (cd := vp_cell (E.2 1) (n1, .inl g)) (srcPos := nI sp) (destPos := nI dp) (n := nI nn) (by rw [hT]; exact hc0) (by rw [hT]; exact hc1)
    (fun _ h => by cases h) (fun _ h => by cases h) (fun h => by cases h) (fun h => by cases h) hk0 hk1 hkk0 hkk1 (by simp [refKind]) (nI_pos (by omega)) (nI_pos (by omega)) (nI_pos (by omega))
    (by rw [t3, t1]; show ¬ _ > ((arrV (E.2 1) n0 (fun j => .int (f j))).slots.size : Int); rw [arrV_size]; omega)
    (by rw [t2, t1]; show ¬ _ > ((arrV (E.2 1) n1 (fun j => .int (g j))).slots.size : Int); rw [arrV_size]; omega)
    (fun vm₁ _ z hz => by
      rw [c1] at hz
      have e9 : (vp_cell (E.2 1) (n0, .inl f)).slots.getD ((nI sp).toNatClampNeg + z) .null = .int (f (sp + z)) := by
        show (arrV (E.2 1) n0 (fun j => .int (f j))).slots.getD _ _ = _
        rw [c3, Array.getD_eq_getD_getElem?, arrV_read _ _ (by omega)]
        rfl
      refine ⟨?_, ?_⟩
      · rw [e9]; rfl
      · rw [e9]; exact trivial)
    (g := F0 m pc ls (.int (nI nn) :: .int (nI dp) :: .ref a :: .int (nI sp) :: .ref a0 :: rest)) rfl (by rw [B.2.2.1]; exact hsz) (rest := rest) rfl (by rw [B.2.1]; exact d) hf (by show 2 * 0 + _ + _ ≤ _; omega)
  have e1 : copied (vp_cell (E.2 1) (n0, .inl f)) (vp_cell (E.2 1) (n1, .inl g)) (nI sp) (nI dp) (nI nn) = vp_cell (E.2 1) (n1, .inl (va_cpy f g sp dp nn)) := by
    have h9 := va_copied (fun z => Value.int z) (E.2 1) (E.2 1) (n1 := n1) (dp := dp) f g h4
    unfold copied
    rw [c1, c2, c3]
    exact h9
  rw [e1] at X' step
  have hl : a < H.size := (Array.getElem?_eq_some_iff.mp hc1).1
  have hheap : ((T.setVm vm').setCell a (vp_cell (E.2 1) (n1, .inl (va_cpy f g sp dp nn)))).heap = H.setIfInBounds a (vp_cell (E.2 1) (n1, .inl (va_cpy f g sp dp nn))) := by rw [← hT]; rfl
  have oq : ∀ q : Nat, q ≠ a → (H.setIfInBounds a (vp_cell (E.2 1) (n1, .inl (va_cpy f g sp dp nn))))[q]? = H[q]? := fun q hq => by simp [Array.getElem?_setIfInBounds, Ne.symm hq]
  obtain ⟨t, a1, b1⟩ := kk _ _ (show (H.setIfInBounds a _)[a]? = some _ by simp [Array.getElem?_setIfInBounds, hl]) oq ⟨by simp; exact hS.1, fun q g1 g2 => by
      rw [oq q (fun e => g2 (by rw [e]; exact ha))]
      exact hS.2.1 q g1 g2, fun q hq => by
      rcases List.mem_append.mp hq with h | h
      · exact hS.2.2 q h
      · obtain ⟨z, -, hz⟩ := List.mem_map.mp h
        rw [← hz]
        exact ha⟩ _ hheap X'
  exact ⟨t, step t a1, b1⟩
theorem zs_copy {i i0 i1 n0 n1 sp dp nn : Nat} (B : zC p s m args meth c9 cc nL own E b) (hw1 : Cond.methodLink own i arraycopyName ∈ zAll) (hw2 : Cond.native arraycopyName ∈ zAll) (hw3 : Cond.static arraycopyName ∈ zAll) (hw4 : Cond.initialized "java/lang/System" ∈ zAll) (hz : ∀ H, P H → zH E b c w en ea H) (hi0 : i0 < 126) (hi1 : i1 < 126) (he1 : zenv i1 = false) (hc0 : ∀ x w e, zcell E b i0 x w e = some (.inl (E.2 1, n0, .inl x))) (hc1 : ∀ x w e, zcell E b i1 x w e = some (.inl (E.2 1, n1, .inl x))) (h4 : sp + nn ≤ n0) (h5 : dp + nn ≤ n1) (hb0 : n0 < 2 ^ 31) (hb1 : n1 < 2 ^ 31) (hf : 1 ≤ R.frames) (hlo : (st.map fun v => v.category).sum + (nativeFrameWords "java/lang/System" "arraycopy" 5 + 11) ≤ R.locals) (d : decode cc pc = .ok (.invokestatic i, 3))
    (kk : zV p l e R s m args below meth c9 Q nL b (zH E b (va_up c i1 (va_cpy (c i0) (c i1) sp dp nn)) w en ea) (pc + 3) L st k n) : zV p l e R s m args below meth c9 Q nL b P pc L (.int (nI nn) :: .int (nI dp) :: .ref (b + i1) :: .int (nI sp) :: .ref (b + i0) :: st) k n := fun H locs ls hP hS hl =>
  zr_copy B hw1 hw2 hw3 hw4 hl.1 ((hz H hP).1 i0 _ hi0 (hc0 _ _ _)) ((hz H hP).1 i1 _ hi1 (hc1 _ _ _)) (Nat.le_add_right b i1) h4 h5 hb0 hb1 hf hlo d hS (fun H1 locs1 h1 h2 h3 => kk H1 locs1 ls ((hz H hP).setc hi1 he1 (hc1 _ _ _) h1 h2) h3 hl)
end Z9
theorem cl0 : vwCl[2]? = some (RX0, TX0, 14) := rfl
theorem cl1 : vwCl[3]? = some (RX1, TX1, 3) := rfl
theorem cl2 : vwCl[4]? = some (RX2, TX2, 4) := rfl
theorem cl3 : vwCl[5]? = some (RX3, TX3, 5) := rfl
theorem cl4 : vwCl[6]? = some (RX4, TX4, 7) := rfl
theorem cl5 : vwCl[7]? = some (RX5, TX5, 13) := rfl
theorem cl6 : vwCl[8]? = some (RX6, TX6, 8) := rfl
theorem cl7 : vwCl[9]? = some (RX7, TX7, 26) := rfl
theorem z0 {E : zE} {b : Nat} (x : Nat → Int32) (w : Int64) (e : Nat) : zcell E b 0 x w e = some (.inr (8, [.ref (b + 1), .ref (b + 34), .ref (b + 70), .ref (b + 106), .ref (b + 108), .ref (b + 109), .int (x 6), .ref e])) := rfl
theorem z1 {E : zE} {b : Nat} (x : Nat → Int32) (w : Int64) (e : Nat) : zcell E b 1 x w e = some (.inr (2, [.int (x 0), .int (x 1), .ref (b + 2), .ref (b + 3), .ref (b + 4), .ref (b + 5), .ref (b + 6), .ref (b + 7), .ref (b + 8), .ref (b + 9), .ref (b + 10), .ref (b + 11), .ref (b + 22), .ref (b + 33)])) := rfl
theorem z2 {E : zE} {b : Nat} (x : Nat → Int32) (w : Int64) (e : Nat) : zcell E b 2 x w e = some (.inl (E.2 0, 10, .inl x)) := rfl
theorem z3 {E : zE} {b : Nat} (x : Nat → Int32) (w : Int64) (e : Nat) : zcell E b 3 x w e = some (.inl (E.2 1, 10, .inl x)) := rfl
theorem z4 {E : zE} {b : Nat} (x : Nat → Int32) (w : Int64) (e : Nat) : zcell E b 4 x w e = some (.inl (E.2 1, 10, .inl x)) := rfl
theorem z5 {E : zE} {b : Nat} (x : Nat → Int32) (w : Int64) (e : Nat) : zcell E b 5 x w e = some (.inl (E.2 1, 10, .inl x)) := rfl
theorem z6 {E : zE} {b : Nat} (x : Nat → Int32) (w : Int64) (e : Nat) : zcell E b 6 x w e = some (.inl (E.2 1, 10, .inl x)) := rfl
theorem z7 {E : zE} {b : Nat} (x : Nat → Int32) (w : Int64) (e : Nat) : zcell E b 7 x w e = some (.inl (E.2 1, 10, .inl x)) := rfl
theorem z8 {E : zE} {b : Nat} (x : Nat → Int32) (w : Int64) (e : Nat) : zcell E b 8 x w e = some (.inl (E.2 1, 10, .inl x)) := rfl
theorem z9 {E : zE} {b : Nat} (x : Nat → Int32) (w : Int64) (e : Nat) : zcell E b 9 x w e = some (.inl (E.2 1, 10, .inl x)) := rfl
theorem z10 {E : zE} {b : Nat} (x : Nat → Int32) (w : Int64) (e : Nat) : zcell E b 10 x w e = some (.inl (E.2 1, 10, .inl x)) := rfl
theorem z11 {E : zE} {b : Nat} (x : Nat → Int32) (w : Int64) (e : Nat) : zcell E b 11 x w e = some (.inl (E.2 4, 10, .inr (.inr (.inr (.inr (fun j => if j < 10 then some (b + (12 + j)) else none)))))) := rfl
theorem z22 {E : zE} {b : Nat} (x : Nat → Int32) (w : Int64) (e : Nat) : zcell E b 22 x w e = some (.inl (E.2 4, 10, .inr (.inr (.inr (.inr (fun j => if j < 10 then some (b + (23 + j)) else none)))))) := rfl
theorem z33 {E : zE} {b : Nat} (x : Nat → Int32) (w : Int64) (e : Nat) : zcell E b 33 x w e = some (.inl (E.2 1, 10, .inl x)) := rfl
theorem z106 {E : zE} {b : Nat} (x : Nat → Int32) (w : Int64) (e : Nat) : zcell E b 106 x w e = some (.inr (5, [.ref (b + 107), .int (x 1), .int (x 2), .long w, .int (x 4)])) := rfl
theorem z107 {E : zE} {b : Nat} (x : Nat → Int32) (w : Int64) (e : Nat) : zcell E b 107 x w e = some (.inl (E.2 1, 64, .inl x)) := rfl
theorem z108 {E : zE} {b : Nat} (x : Nat → Int32) (w : Int64) (e : Nat) : zcell E b 108 x w e = some (.inl (E.2 1, 64, .inl x)) := rfl
theorem z109 {E : zE} {b : Nat} (x : Nat → Int32) (w : Int64) (e : Nat) : zcell E b 109 x w e = some (.inl (E.2 1, 64, .inl x)) := rfl
theorem z111 {E : zE} {b : Nat} (x : Nat → Int32) (w : Int64) (e : Nat) : zcell E b 111 x w e = some (.inr (9, [.ref (b + 112), .ref (b + 113), .ref (b + 114), .ref (b + 115), .ref (b + 116), .ref (b + 117), .ref (b + 118), .ref (b + 119), .ref (b + 120), .ref (b + 121), .ref (b + 122), .ref (b + 123), .int (x 12), .int (x 13), .int (x 14), .int (x 15), .int (x 16), .int (x 17), .int (x 18), .int (x 19), .int (x 20), .int (x 21), .int (x 22), .int (x 23), .int (x 24), .long w])) := rfl
theorem z112 {E : zE} {b : Nat} (x : Nat → Int32) (w : Int64) (e : Nat) : zcell E b 112 x w e = some (.inl (E.2 1, 704, .inl x)) := rfl
theorem z113 {E : zE} {b : Nat} (x : Nat → Int32) (w : Int64) (e : Nat) : zcell E b 113 x w e = some (.inl (E.2 1, 704, .inl x)) := rfl
theorem z114 {E : zE} {b : Nat} (x : Nat → Int32) (w : Int64) (e : Nat) : zcell E b 114 x w e = some (.inl (E.2 1, 10, .inl x)) := rfl
theorem z115 {E : zE} {b : Nat} (x : Nat → Int32) (w : Int64) (e : Nat) : zcell E b 115 x w e = some (.inl (E.2 1, 10, .inl x)) := rfl
theorem z116 {E : zE} {b : Nat} (x : Nat → Int32) (w : Int64) (e : Nat) : zcell E b 116 x w e = some (.inl (E.2 1, 10, .inl x)) := rfl
theorem z117 {E : zE} {b : Nat} (x : Nat → Int32) (w : Int64) (e : Nat) : zcell E b 117 x w e = some (.inl (E.2 1, 10, .inl x)) := rfl
theorem z118 {E : zE} {b : Nat} (x : Nat → Int32) (w : Int64) (e : Nat) : zcell E b 118 x w e = some (.inl (E.2 1, 40, .inl x)) := rfl
theorem z119 {E : zE} {b : Nat} (x : Nat → Int32) (w : Int64) (e : Nat) : zcell E b 119 x w e = some (.inl (E.2 1, 40, .inl x)) := rfl
theorem z120 {E : zE} {b : Nat} (x : Nat → Int32) (w : Int64) (e : Nat) : zcell E b 120 x w e = some (.inl (E.2 1, 10, .inl x)) := rfl
theorem z121 {E : zE} {b : Nat} (x : Nat → Int32) (w : Int64) (e : Nat) : zcell E b 121 x w e = some (.inl (E.2 1, 10, .inl x)) := rfl
theorem z122 {E : zE} {b : Nat} (x : Nat → Int32) (w : Int64) (e : Nat) : zcell E b 122 x w e = some (.inl (E.2 1, 64, .inl x)) := rfl
theorem z123 {E : zE} {b : Nat} (x : Nat → Int32) (w : Int64) (e : Nat) : zcell E b 123 x w e = some (.inl (E.2 2, 10, .inl x)) := rfl
theorem z124 {E : zE} {b : Nat} (x : Nat → Int32) (w : Int64) (e : Nat) : zcell E b 124 x w e = some (.inl (E.2 5, 1, .inr (.inl (fun _ => w)))) := rfl
theorem z125 {E : zE} {b : Nat} (x : Nat → Int32) (w : Int64) (e : Nat) : zcell E b 125 x w e = some (.inl (E.2 6, 1, .inr (.inr (.inr (.inl (fun _ => w.toUInt64)))))) := rfl
theorem zsrc {E : zE} {b : Nat} {j : Nat} (hj : j < 10) (x : Nat → Int32) (w : Int64) (e : Nat) : zcell E b (12 + j) x w e = some (.inl (E.2 1, 4, .inl x)) := by
  rcases (show j = 0 ∨ j = 1 ∨ j = 2 ∨ j = 3 ∨ j = 4 ∨ j = 5 ∨ j = 6 ∨ j = 7 ∨ j = 8 ∨ j = 9 by omega) with rfl | rfl | rfl | rfl | rfl | rfl | rfl | rfl | rfl | rfl <;> rfl
theorem zshr {E : zE} {b : Nat} {j : Nat} (hj : j < 10) (x : Nat → Int32) (w : Int64) (e : Nat) : zcell E b (23 + j) x w e = some (.inl (E.2 1, 4, .inl x)) := by
  rcases (show j = 0 ∨ j = 1 ∨ j = 2 ∨ j = 3 ∨ j = 4 ∨ j = 5 ∨ j = 6 ∨ j = 7 ∨ j = 8 ∨ j = 9 by omega) with rfl | rfl | rfl | rfl | rfl | rfl | rfl | rfl | rfl | rfl <;> rfl
theorem zsrc_e {j : Nat} (hj : j < 10) : zenv (12 + j) = false := by
  rcases (show j = 0 ∨ j = 1 ∨ j = 2 ∨ j = 3 ∨ j = 4 ∨ j = 5 ∨ j = 6 ∨ j = 7 ∨ j = 8 ∨ j = 9 by omega) with rfl | rfl | rfl | rfl | rfl | rfl | rfl | rfl | rfl | rfl <;> rfl
theorem zshr_e {j : Nat} (hj : j < 10) : zenv (23 + j) = false := by
  rcases (show j = 0 ∨ j = 1 ∨ j = 2 ∨ j = 3 ∨ j = 4 ∨ j = 5 ∨ j = 6 ∨ j = 7 ∨ j = 8 ∨ j = 9 by omega) with rfl | rfl | rfl | rfl | rfl | rfl | rfl | rfl | rfl | rfl <;> rfl
/-- where a track lies -/
def zTk (o : Nat) : Prop := o = 34 ∨ o = 70
theorem zt_trk {E : zE} {b : Nat} {o : Nat} (ho : zTk o) (x : Nat → Int32) (w : Int64) (e : Nat) : zcell E b o x w e = some (.inr (6, [.ref (b + 1), .ref (b + (o + 1)), .ref (b + (o + 11)), .ref (b + (o + 22)), .ref (b + (o + 23)), .ref (b + (o + 24)), .ref (b + (o + 35))])) := by rcases ho with rfl | rfl <;> rfl
theorem zt_trk_e {o : Nat} (ho : zTk o) : zenv o = false := by rcases ho with rfl | rfl <;> rfl
theorem zTk.lt {o : Nat} (ho : zTk o) {k : Nat} (hk : k < 56) : o + k < 126 := by rcases ho with rfl | rfl <;> omega
theorem zt_chr {E : zE} {b : Nat} {o : Nat} (ho : zTk o) (x : Nat → Int32) (w : Int64) (e : Nat) : zcell E b (o + 1) x w e = some (.inr (3, [.ref (b + (o + 2)), .int (x 1), .int (x 2)])) := by rcases ho with rfl | rfl <;> rfl
theorem zt_chr_e {o : Nat} (ho : zTk o) : zenv (o + 1) = false := by rcases ho with rfl | rfl <;> rfl
theorem zt_vcs {E : zE} {b : Nat} {o : Nat} (ho : zTk o) (x : Nat → Int32) (w : Int64) (e : Nat) : zcell E b (o + 2) x w e = some (.inl (E.2 3, 4, .inr (.inr (.inr (.inr (fun j => if j < 4 then some (b + (o + 3 + 2 * j)) else none)))))) := by rcases ho with rfl | rfl <;> rfl
theorem zt_vcs_e {o : Nat} (ho : zTk o) : zenv (o + 2) = false := by rcases ho with rfl | rfl <;> rfl
theorem zt_vc {E : zE} {b : Nat} {o j : Nat} (ho : zTk o) (hj : j < 4) (x : Nat → Int32) (w : Int64) (e : Nat) : zcell E b (o + 3 + 2 * j) x w e = some (.inr (7, [.int (x 0), .int (x 1), .int (x 2), .int (x 3), .int (x 4), .ref e, .int (x 6), .int (x 7), .int (x 8), .int (x 9), .int (x 10), .int (x 11), .int (x 12)])) := by
  rcases ho with rfl | rfl <;>
  rcases (show j = 0 ∨ j = 1 ∨ j = 2 ∨ j = 3 by omega) with rfl | rfl | rfl | rfl <;> rfl
theorem zt_vc_e {o j : Nat} (ho : zTk o) (hj : j < 4) : zenv (o + 3 + 2 * j) = false := by
  rcases ho with rfl | rfl <;>
  rcases (show j = 0 ∨ j = 1 ∨ j = 2 ∨ j = 3 by omega) with rfl | rfl | rfl | rfl <;> rfl
theorem zt_vc_h {o j : Nat} (ho : zTk o) (hj : j < 4) : zhold (o + 3 + 2 * j) = true := by
  rcases ho with rfl | rfl <;>
  rcases (show j = 0 ∨ j = 1 ∨ j = 2 ∨ j = 3 by omega) with rfl | rfl | rfl | rfl <;> rfl
theorem zt_blk {E : zE} {b : Nat} {o : Nat} (ho : zTk o) (x : Nat → Int32) (w : Int64) (e : Nat) : zcell E b (o + 11) x w e = some (.inl (E.2 4, 10, .inr (.inr (.inr (.inr (fun j => if j < 10 then some (b + (o + 12 + j)) else none)))))) := by rcases ho with rfl | rfl <;> rfl
theorem zt_blk_e {o : Nat} (ho : zTk o) : zenv (o + 11) = false := by rcases ho with rfl | rfl <;> rfl
theorem zt_br {E : zE} {b : Nat} {o j : Nat} (ho : zTk o) (hj : j < 10) (x : Nat → Int32) (w : Int64) (e : Nat) : zcell E b (o + 12 + j) x w e = some (.inl (E.2 1, 64, .inl x)) := by
  rcases ho with rfl | rfl <;>
  rcases (show j = 0 ∨ j = 1 ∨ j = 2 ∨ j = 3 ∨ j = 4 ∨ j = 5 ∨ j = 6 ∨ j = 7 ∨ j = 8 ∨ j = 9 by omega) with rfl | rfl | rfl | rfl | rfl | rfl | rfl | rfl | rfl | rfl <;> rfl
theorem zt_br_e {o j : Nat} (ho : zTk o) (hj : j < 10) : zenv (o + 12 + j) = false := by
  rcases ho with rfl | rfl <;>
  rcases (show j = 0 ∨ j = 1 ∨ j = 2 ∨ j = 3 ∨ j = 4 ∨ j = 5 ∨ j = 6 ∨ j = 7 ∨ j = 8 ∨ j = 9 by omega) with rfl | rfl | rfl | rfl | rfl | rfl | rfl | rfl | rfl | rfl <;> rfl
theorem zt_lat {E : zE} {b : Nat} {o : Nat} (ho : zTk o) (x : Nat → Int32) (w : Int64) (e : Nat) : zcell E b (o + 22) x w e = some (.inl (E.2 1, 10, .inl x)) := by rcases ho with rfl | rfl <;> rfl
theorem zt_lat_e {o : Nat} (ho : zTk o) : zenv (o + 22) = false := by rcases ho with rfl | rfl <;> rfl
theorem zt_inb {E : zE} {b : Nat} {o : Nat} (ho : zTk o) (x : Nat → Int32) (w : Int64) (e : Nat) : zcell E b (o + 23) x w e = some (.inl (E.2 1, 10, .inl x)) := by rcases ho with rfl | rfl <;> rfl
theorem zt_inb_e {o : Nat} (ho : zTk o) : zenv (o + 23) = false := by rcases ho with rfl | rfl <;> rfl
theorem zt_kps {E : zE} {b : Nat} {o : Nat} (ho : zTk o) (x : Nat → Int32) (w : Int64) (e : Nat) : zcell E b (o + 24) x w e = some (.inl (E.2 4, 10, .inr (.inr (.inr (.inr (fun j => if j < 10 then some (b + (o + 25 + j)) else none)))))) := by rcases ho with rfl | rfl <;> rfl
theorem zt_kps_e {o : Nat} (ho : zTk o) : zenv (o + 24) = false := by rcases ho with rfl | rfl <;> rfl
theorem zt_kp {E : zE} {b : Nat} {o j : Nat} (ho : zTk o) (hj : j < 10) (x : Nat → Int32) (w : Int64) (e : Nat) : zcell E b (o + 25 + j) x w e = some (.inl (E.2 1, 60, .inl x)) := by
  rcases ho with rfl | rfl <;>
  rcases (show j = 0 ∨ j = 1 ∨ j = 2 ∨ j = 3 ∨ j = 4 ∨ j = 5 ∨ j = 6 ∨ j = 7 ∨ j = 8 ∨ j = 9 by omega) with rfl | rfl | rfl | rfl | rfl | rfl | rfl | rfl | rfl | rfl <;> rfl
theorem zt_kp_e {o j : Nat} (ho : zTk o) (hj : j < 10) : zenv (o + 25 + j) = false := by
  rcases ho with rfl | rfl <;>
  rcases (show j = 0 ∨ j = 1 ∨ j = 2 ∨ j = 3 ∨ j = 4 ∨ j = 5 ∨ j = 6 ∨ j = 7 ∨ j = 8 ∨ j = 9 by omega) with rfl | rfl | rfl | rfl | rfl | rfl | rfl | rfl | rfl | rfl <;> rfl
theorem zt_old {E : zE} {b : Nat} {o : Nat} (ho : zTk o) (x : Nat → Int32) (w : Int64) (e : Nat) : zcell E b (o + 35) x w e = some (.inl (E.2 1, 10, .inl x)) := by rcases ho with rfl | rfl <;> rfl
theorem zt_old_e {o : Nat} (ho : zTk o) : zenv (o + 35) = false := by rcases ho with rfl | rfl <;> rfl
end
section
theorem zz_try : 1 + 1 = 2 := by
  have := @zs_copy
  have := @zt_kp
  have h2 := @z111
  rfl
end
