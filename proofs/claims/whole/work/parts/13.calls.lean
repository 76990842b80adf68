/-! calls that go to an inherited method, by the name of another, or above (a named one, whose maker is higher up): returning or throwing -/
section XG
variable {D : va_G} {ca : Nat → ClassId} {sa : Nat → Nat} {lo : Nat} {p : Program} {l : Launch} {e : Env} {R : Room} {s : State} {m : MethodId} {args : Array Value} {below : List Frame} {meth : Method} {c : Code} {cc : ByteArray} {nL : Nat} {own : String} {A : Nat → Prop} {H : Heap} {locs : List Loc} {cells slots : Nat} {Q : State → Prop} {ls : Array Slot} {pc : Nat} {rest : List Value}
theorem x_go {y : MethodName} {mc ms : Nat} {Pc : Array Value → State → Prop} {Qc : Array Value → State → Outcome → State → Prop} {XC : String → State → State → Prop} {free : Addr → Prop} {T : State} {g : JFrame} {a : Array Value} {vm₁ : Vm} {mk : MethodId} {ig : Instr} (hK : vx_Back l R p e below s args y 3 8 (PreOf R mc ms Pc) (PostOf Qc mc ms free) (vx_Post XC mc ms free))
    (hT : T.heap = H) (X₁ : Stand p l e R s m args below meth c (T.setVm vm₁) locs cells slots) (hnamed : s.methodNamed? y = some mk) (hg : g.method = m) (hsize : g.locals.size = c.maxLocals) (hdg : decode c.code g.pc = .ok (ig, 3)) (hW : 2 * g.monitorRoom + (rest.map fun v => v.category).sum ≤ 8)
    (hPc : ∀ U : State, U.heap = H → s.WarmedH U.vm → Pc a U) (hf : cells + mc ≤ R.cells ∧ slots + ms ≤ R.slots)
    (st : ∀ target, Steps p.tables e below (doInvoke e ((T.setVm vm₁).setTop { g with stack := rest }) [] mk a).1 target → Steps p.tables e below (T.setTop g) target) :
    (∃ (v : Option Value) (st₀ t T' : State) (L : List Loc), st₀.heap = H ∧ Stand p l e R s m args below meth c T' (locs ++ L) (cells + mc) (slots + ms) ∧ (∀ q ∈ L, free q.base) ∧ T'.heap = t.heap ∧ T'.vm = t.vm ∧ Qc a st₀ (.returned v) t ∧
      Goes p e below T g T' { g with pc := g.pc + 3, stack := v.toList ++ rest }) ∨
    (∃ (q : Addr) (st₀ t T' : State) (L : List Loc) (E : String) (ce : Cell), st₀.heap = H ∧ Stand p l e R s m args below meth c T' (locs ++ L) (cells + mc) (slots + ms) ∧ (∀ z ∈ L, free z.base) ∧ T'.heap = t.heap ∧ T'.vm = t.vm ∧ XC E st₀ t ∧ t.heap[q]? = some ce ∧ ce.vm = .none ∧ s.vm.findClass E = some ce.cls ∧
      Steps p.tables e below (T.setTop g) ((T'.setTop { g with stack := rest }).pushFrame (.throwing q))) := by
  rcases hK m meth c ⟨T.setVm vm₁, locs, cells, slots⟩ { g with stack := rest } ig mk a X₁ hg hsize hdg hW (X₁.named hnamed) ⟨hf.1, hf.2, hPc (T.setVm vm₁) hT X₁.warmed⟩ with ⟨v, ⟨U', l2, c2, s2⟩, X', ⟨g', mk', t, L, e1, e2, hq, h1, hL, h2, h3⟩, hs⟩ | ⟨q, ⟨U', l2, c2, s2⟩, X', ⟨g', mk', t, L, E, ce, e1, e2, hq, hce, hcv, hcl, h1, hL, h2, h3⟩, hs⟩
  · dsimp only [Pt.U, Pt.locs, Pt.cells, Pt.slots] at X' e1 e2 h1 h2 h3 hs
    subst h1; subst h2; subst h3
    exact Or.inl ⟨v, (T.setVm vm₁).calling g' mk' a, t, U', L, hT, X', hL, e1, e2, hq, fun target h => st _ (hs.trans h)⟩
  · dsimp only [Pt.U, Pt.locs, Pt.cells, Pt.slots] at X' e1 e2 h1 h2 h3 hs hcl
    subst h1; subst h2; subst h3
    exact Or.inr ⟨q, (T.setVm vm₁).calling g' mk' a, t, U', L, E, ce, hT, X', hL, e1, e2, hq, hce, hcv, vx_cls X₁.warmed hcl, st _ hs⟩
theorem x_back {y : MethodName} {bytes : ByteArray} {maxL mc ms sz : Nat} {ret : Option FieldType} {rm : Room} {av : List Value} {wc : va_W} {Qc : Array Value → State → Outcome → State → Prop} {XC : String → State → State → Prop} {free : Addr → Prop} (hk : KK D ca sa s)
    (hM : vx_Met l y [.code y bytes maxL ret] rm (PX D ca sa lo sz av wc) Qc XC mc ms free) (hco : ∀ (U : State) (A9 : Array Value), kw U → (Cond.code y bytes maxL ret).before A9 U = true) (hini : ∀ (U : State) (A9 : Array Value), kw U → (Cond.initialized y.cls).before A9 U = true)
    (hR : (rm.cells = mc ∧ rm.slots = ms) ∧ rm.frames + 1 ≤ R.frames ∧ 8 + (maxL + 11) + rm.locals ≤ R.locals) : vx_Back l R p e below s args y 3 8 (PreOf R mc ms (PX D ca sa lo sz av wc)) (PostOf Qc mc ms free) (vx_Post XC mc ms free) :=
  vx_back (bytes := bytes) (maxL := maxL) (ret := ret) hM PX.blind hR.1.1 hR.1.2 hR.2.1 hR.2.2 (fun w hw a' U hW => by cases List.mem_singleton.mp hw; exact hco U a' (hk.1.warm hW)) (List.mem_singleton.mpr rfl) (fun a' U hW => hini U a' (hk.1.warm hW))
/-- a virtual call that names x (made by owner), the thing's own class goes to y -/
theorem run_U {x y : MethodName} {owner : String} {bytes : ByteArray} {maxL mc ms n index ci q0 N : Nat} {ret : Option FieldType} {rm : Room} {As : List Value} {Qc : Array Value → State → Outcome → State → Prop} {XC : String → State → State → Prop} {free : Addr → Prop} {wc : va_W} {Cn : String} {T : u_T} {b : Addr} {fs : List Value} {st : List Value}
    (C : Cx D ca sa lo p s m c cc nL own A) (hM : vx_Met l y [.code y bytes maxL ret] rm (PX D ca sa lo H.size (.ref b :: As) wc) Qc XC mc ms free) (hco : ∀ (U : State) (A9 : Array Value), kw U → (Cond.code y bytes maxL ret).before A9 U = true) (hini : ∀ (U : State) (A9 : Array Value), kw U → (Cond.initialized y.cls).before A9 U = true)
    (hli : (Cond.methodLink own index x).before args s = true) (hsm : (Cond.sameMethod x.cls owner x.name x.desc).before args s = true) (hdc : va_Decl s ⟨owner, x.name, x.desc⟩) (him : (Cond.instanceMethod y).before args s = true) (hse : (Cond.selects Cn x y).before args s = true)
    (hd : owner ≠ "java/lang/invoke/MethodHandle" ∧ owner ≠ "java/lang/invoke/VarHandle" ∧ (parseMethodDescriptor x.desc).map (fun d => d.parameters.length) = some n) (hR : (rm.cells = mc ∧ rm.slots = ms) ∧ rm.frames + 1 ≤ R.frames ∧ 8 + (maxL + 11) + rm.locals ≤ R.locals)
    (hP : va_P D cls wc H) (hD : va_D A wc) (hS : va_S A s.heap H locs) (hrc : wc[q0]? = some (b, .inr (ci, fs))) (hci : cls[ci]? = some (Cn, T, N))
    (hn : As.length = n) (hsize : ls.size = nL) (hstack : st = As.reverse ++ .ref b :: rest) (hW : (rest.map fun v => v.category).sum ≤ 8) (hdg : decode cc pc = .ok (.invokevirtual index, 3)) (hf : cells + mc ≤ R.cells ∧ slots + ms ≤ R.slots) :
    vx_Run p l e R s m args below meth c H locs cells slots mc ms (F0 m pc ls st) rest (Qc (Value.ref b :: As).toArray) XC free := by
  obtain ⟨hx, hb, hml, hown, hk, hz⟩ := id C
  have hK : vx_Back l R p e below s args y 3 8 (PreOf R mc ms (PX D ca sa lo H.size (.ref b :: As) wc)) (PostOf Qc mc ms free) (vx_Post XC mc ms free) := x_back hk hM hco hini hR
  obtain ⟨cellB, hcB, hoB, hclB⟩ := va_recv hk.2.1 hP hci hrc
  intro T9 hT X
  obtain ⟨r0, r, hn0, hrm, hstR, hsigR⟩ := hdc
  obtain ⟨cn, ck, r1, hcn, hck, hni, hfd, hn1⟩ := Cond.sameMethod_found hsm
  cases hn0.symm.trans hn1
  obtain ⟨mk, methM, hnamed, hmethM, -, habM⟩ := Cond.instanceMethod_spec him
  obtain ⟨c2, r2, m2, q1, q2, q3, q4, kP, hkP, hkPi⟩ := Cond.selects_spec hse
  cases hclB.symm.trans q1
  cases hfd.symm.trans q2
  cases hnamed.symm.trans q3
  have hselP : selectMethod e.platform s.vm cellB.cls r0 = .method mk := by rw [Launch.admits_selectMethod X.admits]; exact q4
  have hlen : As.length = r.sig.parameters.length := by
    have h2 := hd.2.2
    rw [hsigR] at h2
    exact hn.trans (Option.some.inj h2).symm
  obtain ⟨vm₁, X₁, hstep₁⟩ := X.invokevirtualUp hx hown hli hsm ⟨hd.1, hd.2.1⟩ hn0 hrm hstR (a := b) (cell := cellB) (by rw [hT]; exact hcB)
    (fun z h => by rw [h] at hoB; cases hoB) hselP hmethM habM hkP hkPi (g := F0 m pc ls st) rfl (argsL := As) (rest := rest) hlen hstack (by rw [hb]; exact hdg)
  exact x_go (g := F0 m pc ls st) hK hT X₁ hnamed rfl (hsize.trans hml.symm) (by rw [hb]; exact hdg) (lv_room hW) (fun U hU hW => PX.of C hP hD hS hU hW) hf (fun target h => hstep₁ _ (fun acts => by rw [doInvoke_state]; exact h))
/-- the rule of the kind below: x is named, owner made it -/
theorem run_SU {x : MethodName} {owner : String} {bytes : ByteArray} {maxL mc ms n index ci q0 N : Nat} {ret : Option FieldType} {rm : Room} {As : List Value} {Qc : Array Value → State → Outcome → State → Prop} {XC : String → State → State → Prop} {free : Addr → Prop} {wc : va_W} {Cn : String} {T : u_T} {b : Addr} {fs : List Value} {st : List Value}
    (C : Cx D ca sa lo p s m c cc nL own A) (hM : vx_Met l ⟨owner, x.name, x.desc⟩ [.code ⟨owner, x.name, x.desc⟩ bytes maxL ret] rm (PX D ca sa lo H.size (.ref b :: As) wc) Qc XC mc ms free) (hco : ∀ (U : State) (A9 : Array Value), kw U → (Cond.code ⟨owner, x.name, x.desc⟩ bytes maxL ret).before A9 U = true) (hini : ∀ (U : State) (A9 : Array Value), kw U → (Cond.initialized owner).before A9 U = true)
    (hli : (Cond.methodLink own index x).before args s = true) (hsm : (Cond.sameMethod x.cls owner x.name x.desc).before args s = true) (hsu : (Cond.superclass own x.cls).before args s = true) (hup : ∀ a b : ClassId, s.vm.findClass x.cls = some a → s.vm.findClass owner = some b → s.vm.isSubclass a b = true) (him : (Cond.instanceMethod ⟨owner, x.name, x.desc⟩).before args s = true)
    (hd : x.name ≠ "<init>" ∧ (parseMethodDescriptor x.desc).map (fun d => d.parameters.length) = some n) (hR : (rm.cells = mc ∧ rm.slots = ms) ∧ rm.frames + 1 ≤ R.frames ∧ 8 + (maxL + 11) + rm.locals ≤ R.locals)
    (hP : va_P D cls wc H) (hD : va_D A wc) (hS : va_S A s.heap H locs) (hrc : wc[q0]? = some (b, .inr (ci, fs))) (hci : cls[ci]? = some (Cn, T, N))
    (hn : As.length = n) (hsize : ls.size = nL) (hstack : st = As.reverse ++ .ref b :: rest) (hW : (rest.map fun v => v.category).sum ≤ 8) (hdg : decode cc pc = .ok (.invokespecial index, 3)) (hf : cells + mc ≤ R.cells ∧ slots + ms ≤ R.slots) :
    vx_Run p l e R s m args below meth c H locs cells slots mc ms (F0 m pc ls st) rest (Qc (Value.ref b :: As).toArray) XC free := by
  obtain ⟨hx, hb, hml, hown, hk, hz⟩ := id C
  have hK : vx_Back l R p e below s args ⟨owner, x.name, x.desc⟩ 3 8 (PreOf R mc ms (PX D ca sa lo H.size (.ref b :: As) wc)) (PostOf Qc mc ms free) (vx_Post XC mc ms free) := x_back hk hM hco hini hR
  obtain ⟨cellB, hcB, hoB, hclB⟩ := va_recv hk.2.1 hP hci hrc
  intro T9 hT X
  obtain ⟨mk, methM, hnamed, hmethM, hstM, habM⟩ := Cond.instanceMethod_spec him
  obtain ⟨methM', cM, hmethM', -, -, -, -, -, -, hsigM⟩ := Cond.code_spec hnamed (hco s args hk.1)
  cases hmethM.symm.trans hmethM'
  obtain ⟨ps, dk, kp, hps, hdk, hkp, hsuper, -, -, hnid⟩ := Cond.superclass_spec hown hsu
  have hsub : s.vm.isSubclass ps mk.cls = true := hup ps mk.cls hps (findClass_of_methodNamed hnamed)
  have hlen : As.length = methM.sig.parameters.length := by
    have h2 := hd.2
    have h3 : parseMethodDescriptor x.desc = some methM.sig := hsigM
    rw [h3] at h2
    exact hn.trans (Option.some.inj h2).symm
  obtain ⟨k9, h9, -⟩ := Vm.findClass_spec hclB
  obtain ⟨vm₁, X₁, hstep₁⟩ := X.invokespecialUp hx hown hli hsm hnamed hmethM hstM habM hd.1 hdk hnid hps hsuper hsub (a := b) (cell := cellB) (by rw [hT]; exact hcB)
    (fun z h => by rw [h] at hoB; cases hoB) h9 (g := F0 m pc ls st) rfl (argsL := As) (rest := rest) hlen hstack (by rw [hb]; exact hdg)
  exact x_go (g := F0 m pc ls st) hK hT X₁ hnamed rfl (hsize.trans hml.symm) (by rw [hb]; exact hdg) (lv_room hW) (fun U hU hW => PX.of C hP hD hS hU hW) hf hstep₁
/-- one is above itself; above, where the one below it names it -/
theorem up_self {C : String} {s : State} : ∀ a b : ClassId, s.vm.findClass C = some a → s.vm.findClass C = some b → s.vm.isSubclass a b = true := fun a b h1 h2 => by
  cases h1.symm.trans h2
  simp [Vm.isSubclass, Vm.isSubclassAux]
/-- a method that returns always is one that returns or throws -/
def XF (A : Nat → Prop) : String → State → State → Prop := vx_X (S := Unit) (fun _ => False) (fun _ _ _ => True) A
theorem x_of {y : MethodName} {ws : List Cond} {rm : Room} {Pc : Array Value → State → Prop} {Qc : Array Value → State → Outcome → State → Prop} {mc ms : Nat} {free : Addr → Prop} {A9 : Nat → Prop} (hM : Met l y ws rm Pc Qc mc ms free) : vx_Met l y ws rm Pc Qc (XF A9) mc ms free := by
  intro p e ha hc hk s m args below hf happ hP hK
  obtain ⟨n, o, h1, h2, h3, h4, L, h5, h6⟩ := hM p e ha hc hk s m args below hf happ hP hK
  exact ⟨n, o, h1, h2, h3, Or.inl ⟨h4, L, h5, h6⟩⟩
theorem va_D.tl {x0 : Nat × va_E} {wc : va_W} (h : va_D A (x0 :: wc)) : va_D A wc := ⟨fun i j a b hi hj hab => by
  have := h.1 (i + 1) (j + 1) a b hi hj hab
  omega, fun k q hk => h.2 (k + 1) q hk⟩
theorem va_P.tl {x0 : Nat × va_E} {wc : va_W} (h : va_P D cls (x0 :: wc) H) : va_P D cls wc H := fun k q hk => h (k + 1) q hk
/-- one cell beside what a call had: it stays -/
theorem jn1 {x0 : Nat × va_E} {wc w1 : va_W} {H1 : Heap} (hP : va_P D cls (x0 :: wc) H) (hD : va_D A (x0 :: wc)) (hk1 : ∀ q : Nat, q < H.size → ¬ va_A wc H.size q → H1[q]? = H[q]?) (hB : va_P D cls w1 H1) : va_P D cls (x0 :: w1) H1 := by
  have h0 := hP 0 x0 rfl
  have hlt := h0.lt
  intro k q hk
  cases k with
  | zero =>
    cases (Option.some.inj hk : x0 = q)
    refine h0.kept (hk1 x0.1 hlt ?_)
    rintro (⟨j, e9, hj⟩ | h)
    · have := hD.1 0 (j + 1) x0 (x0.1, e9) rfl hj rfl
      omega
    · omega
  | succ k => exact hB k q hk
/-- Trace.begin, called from a rule of a detector -/
theorem cb_begin {x0 : Nat × va_E} {ht hr index : Nat} {t : Tr} {a k : Int32} (C : Cx D ca sa lo p s m c cc nL own A) (hli : (Cond.methodLink own index yX6_begin).before args s = true) (hP : va_P D cls (x0 :: wt ca ht hr t) H) (hD : va_D A (x0 :: wt ca ht hr t)) (hS : va_S A s.heap H locs)
    (hsize : ls.size = nL) (hR : 1 ≤ R.frames ∧ 22 ≤ R.locals) (hW : (rest.map fun v => v.category).sum ≤ 8) (hdg : decode cc pc = .ok (.invokevirtual index, 3)) (hf : cells ≤ R.cells ∧ slots ≤ R.slots)
    (kk : ∀ (H1 : Heap) (locs1 : List Loc), va_P D cls (x0 :: wt ca ht hr (tb a k t)) H1 → va_D A (x0 :: wt ca ht hr (tb a k t)) → va_S A s.heap H1 locs1 → W p l e R s m args below meth c H1 locs1 cells slots Q (F0 m (pc + 3) ls rest)) :
    W p l e R s m args below meth c H locs cells slots Q (F0 m pc ls (.int k :: .int a :: .ref ht :: rest)) := by
  have hk := C.2.2.2.2.1
  have hPt := hP.tl
  have hDt := hD.tl
  refine va_callv (run_V (Cn := RX6) (T := TX6) (N := 6) (q0 := 0) (ci := 6) (n := 2) (As := [.int a, .int k]) (rest := rest) C (m_begin l D ca sa lo H.size ht hr a k t) (fun U A9 h => co_X6_begin h A9) (in_X6 hk.1 _) hli (im_X6_begin hk.1 _) (se_X6_X6_begin hk.1 _) (by decide +kernel) ⟨⟨rfl, rfl⟩, hR.1, hR.2⟩ hPt hDt hS rfl rfl rfl hsize rfl hW hdg hf) hS (fun q _ h => fr_of C hDt hS q h) (fr_of C hDt hS) (fun u t1 H1 locs1 ht1 hvm _ hB hz1 hk1 hS1 => ?_)
  subst ht1
  exact kk _ _ (jn1 hP hD hk1 hB) (hD.to rfl) hS1
end XG
