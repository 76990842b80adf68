/-! what all methods know of the tables, of the statics; one form of contract for all -/
def tyl (ca : Nat → ClassId) : List (ClassId × FieldType) := [(ca 0, .int), (ca 1, .object "AlarmKinds$Plain"), (ca 2, .boolean), (ca 3, .long)]
def ksC : List (String × String) := [("java/lang/IllegalStateException", "java/lang/IllegalStateException"), ("java/lang/ArithmeticException", "java/lang/ArithmeticException"), (RX0, RX3), (RX1, RX3), (RX2, RX3), (RX4, RX3), (RX5, RX3), (RX7, RX3), (RX8, RX3)]
def ksD : List MethodName := [⟨"java/lang/RuntimeException", "<init>", "(Ljava/lang/String;)V"⟩, ⟨"java/lang/Exception", "<init>", "(Ljava/lang/String;)V"⟩, ⟨"java/lang/Throwable", "<init>", "(Ljava/lang/String;)V"⟩, ⟨"java/lang/RuntimeException", "<init>", "()V"⟩, ⟨"java/lang/Exception", "<init>", "()V"⟩, ⟨"java/lang/Throwable", "<init>", "()V"⟩]
def KK (D : va_G) (ca : Nat → ClassId) (sa : Nat → Nat) (U : State) : Prop := kw U ∧ va_K D cls (tyl ca) U ∧ (∀ q ∈ ksC, va_Nw (.castable q.1 q.2) U) ∧ va_Nc "java/lang/ArithmeticException" "java/lang/IllegalStateException" U ∧ vk_R RX4 30 "the detector is flat" (sa 0) U ∧ vk_R RX0 31 "1000 by 0" (sa 1) U ∧ va_AO "AlarmKinds$Plain" U ∧ ∀ q ∈ ksD, va_Nw (.declares q) U
theorem KK.warm {D : va_G} {ca : Nat → ClassId} {sa : Nat → Nat} {s U : State} (hW : s.WarmedH U.vm) (h : KK D ca sa s) : KK D ca sa U := by
  obtain ⟨h1, h2, h3, h4, h5, h6, h7, h8⟩ := h
  exact ⟨h1.warm hW, h2.moved hW.alike, fun q hq => va_Nw.warmC hW (h3 q hq), h4.moved hW.alike, h5.warm hW, h6.warm hW, h7.moved hW.alike, fun q hq => va_Nw.warmD hW (h8 q hq)⟩
theorem KK.same {D : va_G} {ca : Nat → ClassId} {sa : Nat → Nat} {u U : State} (h : U.vm = u.vm) (k : KK D ca sa u) : KK D ca sa U := k.warm (by rw [h]; exact State.WarmedH.refl u)
def kz (lo : Nat) (U : State) (H : Heap) : Prop := vx_Zq Bundle.tN "UNASSIGNED_STACK" Bundle.steD (fun q => lo ≤ q) U H ∧ vx_Zq Bundle.tN "SUPPRESSED_SENTINEL" Bundle.listD (fun q => lo ≤ q) U H
theorem kz.moved {lo : Nat} {u U : State} {H : Heap} (hvm : u.vm.Alike U.vm) (h : kz lo u H) : kz lo U H := ⟨h.1.moved hvm, h.2.moved hvm⟩
theorem kz.kept {lo : Nat} {U : State} {H H1 : Heap} (h : kz lo U H) (hq : ∀ a : Nat, a < H.size → ¬ lo ≤ a → H1[a]? = H[a]?) : kz lo U H1 := ⟨h.1.kept hq, h.2.kept hq⟩
def PX (D : va_G) (ca : Nat → ClassId) (sa : Nat → Nat) (lo sz : Nat) (av : List Value) (ws : va_W) : Array Value → State → Prop := fun v U => v = av.toArray ∧ U.heap.size = sz ∧ va_P D cls ws U.heap ∧ va_D (fun q => lo ≤ q) ws ∧ KK D ca sa U ∧ kz lo U U.heap ∧ lo ≤ sz
theorem PX.blind {D : va_G} {ca : Nat → ClassId} {sa : Nat → Nat} {lo sz : Nat} {av : List Value} {ws : va_W} : FrameBlind (PX D ca sa lo sz av ws) := fun a U g mk h => by
  obtain ⟨h1, h2, h3, h4, h5, h6, h7⟩ := h
  exact ⟨h1, h2, h3, h4, KK.same (u := U) rfl h5, kz.moved (u := U) (U := U.calling g mk a) (Vm.Alike.refl U.vm) h6, h7⟩
def Cx (D : va_G) (ca : Nat → ClassId) (sa : Nat → Nat) (lo : Nat) (p : Program) (s : State) (m : MethodId) (c : Code) (cc : ByteArray) (nL : Nat) (own : String) (A : Nat → Prop) : Prop :=
  p.tables.exec = Jvm.exec ∧ c.code = cc ∧ c.maxLocals = nL ∧ s.vm.findClass own = some m.cls ∧ KK D ca sa s ∧ kz lo s s.heap ∧ lo ≤ s.heap.size ∧ (∀ q, s.heap.size ≤ q → A q) ∧ (∀ q, A q → lo ≤ q)
theorem va_D.to {A : Nat → Prop} {ws ws' : va_W} (h : va_D A ws) (e : ws'.map (·.1) = ws.map (·.1)) : va_D A ws' := by
  have key : ∀ (k : Nat) (q : Nat × va_E), ws'[k]? = some q → ∃ q', ws[k]? = some q' ∧ q'.1 = q.1 := by
    intro k q hk
    have h1 : (ws'.map (·.1))[k]? = some q.1 := by rw [List.getElem?_map, hk]; rfl
    rw [e, List.getElem?_map] at h1
    cases h2 : ws[k]? with
    | none => rw [h2] at h1; cases h1
    | some q' => rw [h2] at h1; exact ⟨q', rfl, Option.some.inj h1⟩
  refine ⟨fun i j a b hi hj hab => ?_, fun k q hk => ?_⟩
  · obtain ⟨a', ha', ea⟩ := key i a hi
    obtain ⟨b', hb', eb⟩ := key j b hj
    exact h.1 i j a' b' ha' hb' (by rw [ea, eb]; exact hab)
  · obtain ⟨q', hq', eq⟩ := key k q hk
    rw [← eq]; exact h.2 k q' hq'
section KX
variable {D : va_G} {ca : Nat → ClassId} {sa : Nat → Nat} {lo : Nat} {p : Program} {l : Launch} {e : Env} {R : Room} {s : State} {m : MethodId} {args : Array Value} {below : List Frame} {meth : Method} {c : Code} {cc : ByteArray} {nL : Nat} {own : String} {A : Nat → Prop} {H : Heap} {locs : List Loc} {cells slots : Nat} {Q : State → Prop} {ls : Array Slot} {pc : Nat} {rest : List Value}
theorem PX.of {av : List Value} {ws : va_W} (C : Cx D ca sa lo p s m c cc nL own A) (hP : va_P D cls ws H) (hD : va_D A ws) (hS : va_S A s.heap H locs) {U : State} (hU : U.heap = H) (hW : s.WarmedH U.vm) : PX D ca sa lo H.size av ws av.toArray U := by
  obtain ⟨-, -, -, -, hk, hz, hlo, -, hA⟩ := C
  refine ⟨rfl, by rw [hU], by rw [hU]; exact hP, hD.weaken (fun _ _ _ h => hA _ h), hk.warm hW, ?_, Nat.le_trans hlo hS.1⟩
  rw [hU]
  exact (hz.moved hW.alike).kept (fun a h1 h2 => hS.2.1 a h1 (fun h3 => h2 (hA a h3)))
def QV (D : va_G) (ws : va_W) (A : Nat → Prop) : Array Value → State → Outcome → State → Prop := va_Qv (S := Unit) (fun _ => True) (fun _ t => va_P D cls ws t.heap) A
def QI (D : va_G) (r : Int32) (ws : va_W) (A : Nat → Prop) : Array Value → State → Outcome → State → Prop := va_Qi (S := Unit) (fun r' _ => r' = r) (fun _ t => va_P D cls ws t.heap) A
theorem rv (C : Cx D ca sa lo p s m c cc nL own A) (hr : meth.sig.returnType = none) (hlocks : meth.locks = false) {ws : va_W} (hP : va_P D cls ws H) (hS : va_S A s.heap H locs) (hdg : decode cc pc = .ok (.return_, 1)) : W p l e R s m args below meth c H locs cells slots (MQ below (QV D ws A) args s cells slots A) (F0 m pc ls []) :=
  W.vret C.1 C.2.1 hr (fun t ht hW => ⟨⟨(), rfl, trivial, by subst ht; exact hP⟩, hS.F ht⟩) hS.2.2 hdg hlocks
theorem ri (C : Cx D ca sa lo p s m c cc nL own A) (hr : meth.sig.returnType = some .int) (hlocks : meth.locks = false) {ws : va_W} {v r : Int32} (hv : v = r) (hP : va_P D cls ws H) (hS : va_S A s.heap H locs) (hdg : decode cc pc = .ok (.ireturn, 1)) : W p l e R s m args below meth c H locs cells slots (MQ below (QI D r ws A) args s cells slots A) (F0 m pc ls [.int v]) :=
  W.iret C.1 C.2.1 hr (fun t ht hW => ⟨⟨v, (), rfl, hv, by subst ht; exact hP⟩, hS.F ht⟩) hS.2.2 hdg hlocks
theorem nar_b (b : Bool) : narrow .boolean (.int (bi b)) = .int (bi b) := by cases b <;> rfl
theorem rz (C : Cx D ca sa lo p s m c cc nL own A) (hr : meth.sig.returnType = some .boolean) (hlocks : meth.locks = false) {ws : va_W} {v : Int32} {b : Bool} (hv : v = bi b) (hP : va_P D cls ws H) (hS : va_S A s.heap H locs) (hdg : decode cc pc = .ok (.ireturn, 1)) : W p l e R s m args below meth c H locs cells slots (MQ below (QI D (bi b) ws A) args s cells slots A) (F0 m pc ls [.int v]) :=
  W.zret C.1 C.2.1 hr (by rw [hv]; exact nar_b b) (fun t ht hW => ⟨⟨v, (), rfl, hv, by subst ht; exact hP⟩, hS.F ht⟩) hS.2.2 hdg hlocks
end KX
theorem mk_met {D : va_G} {ca : Nat → ClassId} {sa : Nat → Nat} {lo sz : Nat} {l : Launch} {y : MethodName} {cc : ByteArray} {maxL : Nat} {ret : Option FieldType} {rm : Room} {av : List Value} {ws : va_W} {mc ms : Nat} (Qc : (Nat → Prop) → Array Value → State → Outcome → State → Prop)
    (hy : plainName y.cls = true) (hlen : (lg_sl av).length ≤ maxL)
    (body : ∀ (p : Program) (e : Env) (s : State) (m : MethodId) (below : List Frame) (meth : Method) (c : Code) (A : Nat → Prop) (ls : Array Slot), Cx D ca sa lo p s m c cc maxL y.cls A → meth.sig.returnType = ret → meth.locks = false → meth.name = y.name → s.heap.size = sz → va_P D cls ws s.heap → va_D A ws → va_S A s.heap s.heap [] → lv_has ls maxL (lv_args 0 av) →
      W p l e rm s m av.toArray below meth c s.heap [] 0 0 (MQ below (Qc A) av.toArray s mc ms A) (F0 m 0 ls [])) :
    Met l y [.code y cc maxL ret] rm (PX D ca sa lo sz av ws) (Qc (va_A ws sz)) mc ms (va_A ws sz) := by
  refine Met.ofW (cc := cc) (maxL := maxL) (ret := ret) hy rfl ?_
  intro p e s m args below meth c s₁ B hml hv
  obtain ⟨rfl, hsz, hP, hD, hk, hz, hlo⟩ := hv
  subst hsz
  have hA1 : ∀ q : Nat, s.heap.size ≤ q → va_A ws s.heap.size q := fun q h => Or.inr h
  have hA2 : ∀ q : Nat, va_A ws s.heap.size q → lo ≤ q := fun q h => by
    rcases h with ⟨k, e9, hk9⟩ | h
    · exact hD.2 k _ hk9
    · exact Nat.le_trans hlo h
  have hl := lv_entry av (n := maxL) hlen
  rw [lg_entry_eq]
  exact body p e s m below meth c (va_A ws s.heap.size) _ ⟨B.exec, B.bytes, hml, findClass_of_methodNamed B.named, hk, hz, hlo, hA1, hA2⟩ B.returns B.notSynchronized (name_of_methodNamed B.named B.method).1 rfl hP hD.self va_S.rf hl
theorem mk_metX {D : va_G} {ca : Nat → ClassId} {sa : Nat → Nat} {lo sz : Nat} {l : Launch} {y : MethodName} {cc : ByteArray} {maxL : Nat} {ret : Option FieldType} {rm : Room} {av : List Value} {ws : va_W} {mc ms : Nat} (Qc : (Nat → Prop) → Array Value → State → Outcome → State → Prop) (XC : (Nat → Prop) → String → State → State → Prop)
    (hy : plainName y.cls = true) (hlen : (lg_sl av).length ≤ maxL)
    (body : ∀ (p : Program) (e : Env) (s : State) (m : MethodId) (below : List Frame) (meth : Method) (c : Code) (A : Nat → Prop) (ls : Array Slot), Cx D ca sa lo p s m c cc maxL y.cls A → meth.sig.returnType = ret → meth.locks = false → (∀ x ∈ c.exceptionTable.toList, False) → s.heap.size = sz → va_P D cls ws s.heap → va_D A ws → va_S A s.heap s.heap [] → lv_has ls maxL (lv_args 0 av) →
      W p l e rm s m av.toArray below meth c s.heap [] 0 0 (vx_MQ below (Qc A) (XC A) av.toArray s mc ms A) (F0 m 0 ls [])) :
    vx_Met l y [.code y cc maxL ret] rm (PX D ca sa lo sz av ws) (Qc (va_A ws sz)) (XC (va_A ws sz)) mc ms (va_A ws sz) := by
  refine vx_ofW (cc := cc) (maxL := maxL) (ret := ret) hy rfl ?_
  intro p e s m args below meth c s₁ B hml hno hv
  obtain ⟨rfl, hsz, hP, hD, hk, hz, hlo⟩ := hv
  subst hsz
  have hA1 : ∀ q : Nat, s.heap.size ≤ q → va_A ws s.heap.size q := fun q h => Or.inr h
  have hA2 : ∀ q : Nat, va_A ws s.heap.size q → lo ≤ q := fun q h => by
    rcases h with ⟨k, e9, hk9⟩ | h
    · exact hD.2 k _ hk9
    · exact Nat.le_trans hlo h
  have hl := lv_entry av (n := maxL) hlen
  rw [lg_entry_eq]
  exact body p e s m below meth c (va_A ws s.heap.size) _ ⟨B.exec, B.bytes, hml, findClass_of_methodNamed B.named, hk, hz, hlo, hA1, hA2⟩ B.returns B.notSynchronized hno rfl hP hD.self va_S.rf hl
section KC
variable {D : va_G} {ca : Nat → ClassId} {sa : Nat → Nat} {lo : Nat} {p : Program} {l : Launch} {e : Env} {R : Room} {s : State} {m : MethodId} {args : Array Value} {below : List Frame} {meth : Method} {c : Code} {cc : ByteArray} {nL : Nat} {own : String} {A : Nat → Prop} {H : Heap} {locs : List Loc} {cells slots : Nat} {Q : State → Prop} {ls : Array Slot} {pc : Nat} {rest : List Value}
/-- the cells of a callee are free cells of ours -/
theorem fr_of {wc : va_W} (C : Cx D ca sa lo p s m c cc nL own A) (hD : va_D A wc) (hS : va_S A s.heap H locs) : ∀ q, va_A wc H.size q → A q := fun q h => by
  rcases h with ⟨k, e9, hk⟩ | h
  · exact hD.2 k _ hk
  · exact C.2.2.2.2.2.2.2.1 q (Nat.le_trans hS.1 h)
/-- a virtual call whose method is the one that is named -/
theorem run_V {y : MethodName} {bytes : ByteArray} {maxL mc ms n index ci q0 N : Nat} {ret : Option FieldType} {rm : Room} {As : List Value} {Qc : Array Value → State → Outcome → State → Prop} {free : Addr → Prop} {wc : va_W} {Cn : String} {T : u_T} {b : Addr} {fs : List Value} {st : List Value}
    (C : Cx D ca sa lo p s m c cc nL own A) (hM : Met l y [.code y bytes maxL ret] rm (PX D ca sa lo H.size (.ref b :: As) wc) Qc mc ms free) (hco : ∀ (U : State) (A9 : Array Value), kw U → (Cond.code y bytes maxL ret).before A9 U = true)
    (hini : (Cond.initialized y.cls).before args s = true) (hli : (Cond.methodLink own index y).before args s = true) (him : (Cond.instanceMethod y).before args s = true) (hse : (Cond.selects Cn y y).before args s = true)
    (hd : y.cls ≠ "java/lang/invoke/MethodHandle" ∧ y.cls ≠ "java/lang/invoke/VarHandle" ∧ (parseMethodDescriptor y.desc).map (fun d => d.parameters.length) = some n) (hR : (rm.cells = mc ∧ rm.slots = ms) ∧ rm.frames + 1 ≤ R.frames ∧ 8 + (maxL + 11) + rm.locals ≤ R.locals)
    (hP : va_P D cls wc H) (hD : va_D A wc) (hS : va_S A s.heap H locs) (hrc : wc[q0]? = some (b, .inr (ci, fs))) (hci : cls[ci]? = some (Cn, T, N))
    (hn : As.length = n) (hsize : ls.size = nL) (hstack : st = As.reverse ++ .ref b :: rest) (hW : (rest.map fun v => v.category).sum ≤ 8) (hdg : decode cc pc = .ok (.invokevirtual index, 3)) (hf : cells + mc ≤ R.cells ∧ slots + ms ≤ R.slots) :
    va_Run p l e R s m args below meth c H locs cells slots mc ms (F0 m pc ls st) rest (Qc (Value.ref b :: As).toArray) free := by
  obtain ⟨hx, hb, hml, hown, hk, hz⟩ := id C
  refine va_runV (Ts := []) (cc := cc) (nL := nL) (own := own) (C := Cn) ⟨hx, hb, hml, hown, fun w h => nomatch h⟩ hM
    ⟨⟨hR.1.1, hR.1.2, hR.2.1, hR.2.2, fun w hw a' U hW => by cases List.mem_singleton.mp hw; exact hco U a' (hk.1.warm hW), List.mem_singleton.mpr rfl, hco s args hk.1, hini, ⟨hd.1, hd.2.1⟩, fun sig h => by
      have h2 := hd.2.2
      rw [h] at h2
      exact (Option.some.inj h2).symm, hli⟩, him, hse⟩
    ⟨PX.blind, va_recv hk.2.1 hP hci hrc, fun U hU hW => PX.of C hP hD hS hU hW⟩ rfl hn hsize hstack (lv_room hW) hdg hf
end KC
